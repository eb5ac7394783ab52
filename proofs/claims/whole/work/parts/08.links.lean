/-! method infos, and the links of fields, methods, classes and constants: by a program -/
abbrev iX0_init : ax_I := (yX0_init, cX0_init, 1, none)
abbrev iX0_copyFrom : ax_I := (yX0_copyFrom, cX0_copyFrom, 2, none)
abbrev iX0_write : ax_I := (yX0_write, cX0_write, 8, none)
abbrev iX0_entry : ax_I := (yX0_entry, cX0_entry, 3, (some .int))
abbrev iX0_latestHand : ax_I := (yX0_latestHand, cX0_latestHand, 5, (some .int))
abbrev iX0_salesOf : ax_I := (yX0_salesOf, cX0_salesOf, 5, (some .int))
abbrev iX1_init : ax_I := (yX1_init, cX1_init, 1, none)
abbrev iX1_copyFrom : ax_I := (yX1_copyFrom, cX1_copyFrom, 2, none)
abbrev iX1_restDays : ax_I := (yX1_restDays, cX1_restDays, 3, (some .int))
abbrev iX1_readAll : ax_I := (yX1_readAll, cX1_readAll, 4, (some .boolean))
abbrev iX1_readAgain : ax_I := (yX1_readAgain, cX1_readAgain, 3, (some .boolean))
abbrev iX1_closeAgain : ax_I := (yX1_closeAgain, cX1_closeAgain, 5, none)
abbrev iX1_addStep : ax_I := (yX1_addStep, cX1_addStep, 4, none)
abbrev iX1_readStep : ax_I := (yX1_readStep, cX1_readStep, 5, (some .boolean))
abbrev iX1_mostOf : ax_I := (yX1_mostOf, cX1_mostOf, 1, (some .int))
abbrev iX2_init : ax_I := (yX2_init, cX2_init, 2, none)
abbrev iX2_held : ax_I := (yX2_held, cX2_held, 2, (some .int))
abbrev iX2_askHabit : ax_I := (yX2_askHabit, cX2_askHabit, 6, none)
abbrev iX2_needOf : ax_I := (yX2_needOf, cX2_needOf, 5, (some .int))
abbrev iX2_lossOf : ax_I := (yX2_lossOf, cX2_lossOf, 5, (some .int))
abbrev iX2_strengthOf : ax_I := (yX2_strengthOf, cX2_strengthOf, 5, (some .int))
abbrev iX2_weakestBelow : ax_I := (yX2_weakestBelow, cX2_weakestBelow, 8, (some .int))
abbrev iX2_forget : ax_I := (yX2_forget, cX2_forget, 6, none)
abbrev iX2_findPasts : ax_I := (yX2_findPasts, cX2_findPasts, 8, none)
abbrev iX2_agreesWithTold : ax_I := (yX2_agreesWithTold, cX2_agreesWithTold, 5, (some .boolean))
abbrev iX2_tellingForce : ax_I := (yX2_tellingForce, cX2_tellingForce, 6, (some .int))
abbrev iX3_init : ax_I := (yX3_init, cX3_init, 1, none)
abbrev iX3_copyFrom : ax_I := (yX3_copyFrom, cX3_copyFrom, 2, none)
abbrev iX3_answer : ax_I := (yX3_answer, cX3_answer, 9, (some .int))
abbrev iX3_readAll : ax_I := (yX3_readAll, cX3_readAll, 3, (some .boolean))
abbrev iX3_readLine : ax_I := (yX3_readLine, cX3_readLine, 3, (some .boolean))
abbrev iX3_readCheck : ax_I := (yX3_readCheck, cX3_readCheck, 6, (some .boolean))
abbrev iX3_readSum : ax_I := (yX3_readSum, cX3_readSum, 5, (some .boolean))
abbrev iX3_readProduct : ax_I := (yX3_readProduct, cX3_readProduct, 5, (some .boolean))
abbrev iX3_readUnit : ax_I := (yX3_readUnit, cX3_readUnit, 3, (some .boolean))
abbrev iX3_put : ax_I := (yX3_put, cX3_put, 2, (some .boolean))
abbrev iX4_init : ax_I := (yX4_init, cX4_init, 2, none)
abbrev iX4_copyFrom : ax_I := (yX4_copyFrom, cX4_copyFrom, 3, none)
abbrev iX4_readLetters : ax_I := (yX4_readLetters, cX4_readLetters, 6, (some .int))
abbrev iX4_letterFor : ax_I := (yX4_letterFor, cX4_letterFor, 1, (some .int))
abbrev iX4_countOf : ax_I := (yX4_countOf, cX4_countOf, 5, (some .int))
abbrev iX4_balanceOf : ax_I := (yX4_balanceOf, cX4_balanceOf, 2, (some .int))
abbrev iX4_twistsOf : ax_I := (yX4_twistsOf, cX4_twistsOf, 2, (some .int))
abbrev iX4_marksDiffer : ax_I := (yX4_marksDiffer, cX4_marksDiffer, 3, (some .boolean))
abbrev iX4_letterOf : ax_I := (yX4_letterOf, cX4_letterOf, 3, (some .int))
abbrev iX4_codeOf : ax_I := (yX4_codeOf, cX4_codeOf, 4, (some .int))
abbrev iX5_init : ax_I := (yX5_init, cX5_init, 1, none)
abbrev iX5_behind : ax_I := (yX5_behind, cX5_behind, 2, (some .int))
abbrev iX5_fewest : ax_I := (yX5_fewest, cX5_fewest, 5, (some .int))
abbrev iX5_spell : ax_I := (yX5_spell, cX5_spell, 4, none)
abbrev iX5_reachAll : ax_I := (yX5_reachAll, cX5_reachAll, 5, none)
abbrev iX5_reach : ax_I := (yX5_reach, cX5_reach, 8, none)
abbrev iX6_init : ax_I := (yX6_init, cX6_init, 2, none)
abbrev iX6_lineUp : ax_I := (yX6_lineUp, cX6_lineUp, 6, none)
abbrev iX6_tieAll : ax_I := (yX6_tieAll, cX6_tieAll, 7, none)
abbrev iX6_tiesFirst : ax_I := (yX6_tiesFirst, cX6_tiesFirst, 7, (some .boolean))
abbrev iX7_init : ax_I := (yX7_init, cX7_init, 1, none)
abbrev iX7_copyFrom : ax_I := (yX7_copyFrom, cX7_copyFrom, 2, none)
abbrev iX7_begin : ax_I := (yX7_begin, cX7_begin, 4, none)
abbrev iX7_isUntied : ax_I := (yX7_isUntied, cX7_isUntied, 2, (some .boolean))
abbrev iX7_isTied : ax_I := (yX7_isTied, cX7_isTied, 2, (some .boolean))
abbrev iX7_callAt : ax_I := (yX7_callAt, cX7_callAt, 4, (some .int))
abbrev iX7_tiesBeside : ax_I := (yX7_tiesBeside, cX7_tiesBeside, 2, (some .int))
abbrev iX7_tiesInAll : ax_I := (yX7_tiesInAll, cX7_tiesInAll, 3, (some .int))
abbrev iX7_habitsAt : ax_I := (yX7_habitsAt, cX7_habitsAt, 4, (some .int))
abbrev iX7_habitsInAll : ax_I := (yX7_habitsInAll, cX7_habitsInAll, 3, (some .int))
abbrev iX7_addHabit : ax_I := (yX7_addHabit, cX7_addHabit, 6, none)
abbrev iX7_tieKnot : ax_I := (yX7_tieKnot, cX7_tieKnot, 5, none)
abbrev iX7_wetTo : ax_I := (yX7_wetTo, cX7_wetTo, 5, none)
abbrev iX7_forgetBeside : ax_I := (yX7_forgetBeside, cX7_forgetBeside, 3, none)
abbrev iX7_takeTail : ax_I := (yX7_takeTail, cX7_takeTail, 3, none)
abbrev iX7_copyPlaces : ax_I := (yX7_copyPlaces, cX7_copyPlaces, 5, none)
abbrev iX7_append : ax_I := (yX7_append, cX7_append, 4, none)
abbrev iX7_marry : ax_I := (yX7_marry, cX7_marry, 5, none)
abbrev iX8_init : ax_I := (yX8_init, cX8_init, 1, none)
abbrev iX8_feedNumber : ax_I := (yX8_feedNumber, cX8_feedNumber, 3, none)
abbrev iX8_isBlank : ax_I := (yX8_isBlank, cX8_isBlank, 1, (some .boolean))
abbrev iX8_isLetter : ax_I := (yX8_isLetter, cX8_isLetter, 1, (some .boolean))
abbrev iX8_isDigit : ax_I := (yX8_isDigit, cX8_isDigit, 1, (some .boolean))
abbrev iX8_scan : ax_I := (yX8_scan, cX8_scan, 7, none)
abbrev iX8_add : ax_I := (yX8_add, cX8_add, 4, none)
abbrev iX8_numberFor : ax_I := (yX8_numberFor, cX8_numberFor, 5, (some .int))
abbrev iX8_wordFor : ax_I := (yX8_wordFor, cX8_wordFor, 7, (some .int))
abbrev iX8_standsAt : ax_I := (yX8_standsAt, cX8_standsAt, 6, (some .boolean))
abbrev iX8_isEnd : ax_I := (yX8_isEnd, cX8_isEnd, 1, (some .boolean))
abbrev iX8_isNumber : ax_I := (yX8_isNumber, cX8_isNumber, 1, (some .boolean))
abbrev iX8_isWord : ax_I := (yX8_isWord, cX8_isWord, 2, (some .boolean))
abbrev iX8_isAsked : ax_I := (yX8_isAsked, cX8_isAsked, 2, (some .boolean))
abbrev iX8_isSign : ax_I := (yX8_isSign, cX8_isSign, 2, (some .boolean))
abbrev iX8_value : ax_I := (yX8_value, cX8_value, 1, (some .int))
abbrev iX8_step : ax_I := (yX8_step, cX8_step, 1, none)
abbrev iX8_pass : ax_I := (yX8_pass, cX8_pass, 3, (some .boolean))
abbrev iX8_passNumber : ax_I := (yX8_passNumber, cX8_passNumber, 3, (some .boolean))
abbrev iX8_fail : ax_I := (yX8_fail, cX8_fail, 2, (some .boolean))
abbrev iX8_failAt : ax_I := (yX8_failAt, cX8_failAt, 3, none)
abbrev iX9_init : ax_I := (yX9_init, cX9_init, 2, none)
abbrev iX9_copyFrom : ax_I := (yX9_copyFrom, cX9_copyFrom, 3, none)
abbrev iX9_ropeAt : ax_I := (yX9_ropeAt, cX9_ropeAt, 2, (some (.object "RopeMind$Rope")))
abbrev iX9_freeNumber : ax_I := (yX9_freeNumber, cX9_freeNumber, 2, (some .int))
abbrev iX9_ropeSet : ax_I := (yX9_ropeSet, cX9_ropeSet, 3, (some .int))
abbrev iX9_drawBelow : ax_I := (yX9_drawBelow, cX9_drawBelow, 2, (some .int))
abbrev iX9_part : ax_I := (yX9_part, cX9_part, 5, (some .int))
abbrev iX10_init : ax_I := (yX10_init, cX10_init, 1, none)
abbrev iX10_plan : ax_I := (yX10_plan, cX10_plan, 5, none)
abbrev iX10_chooseRope : ax_I := (yX10_chooseRope, cX10_chooseRope, 4, (some .int))
abbrev iX10_fewestFrom : ax_I := (yX10_fewestFrom, cX10_fewestFrom, 6, (some .int))
abbrev iX10_bestWith : ax_I := (yX10_bestWith, cX10_bestWith, 5, (some .int))
abbrev iX11_init : ax_I := (yX11_init, cX11_init, 2, none)
abbrev iX11_state : ax_I := (yX11_state, cX11_state, 3, (some .int))
abbrev iX11_rope : ax_I := (yX11_rope, cX11_rope, 4, (some .int))
abbrev iX11_set : ax_I := (yX11_set, cX11_set, 4, (some .boolean))
abbrev iX11_tie : ax_I := (yX11_tie, cX11_tie, 6, (some .boolean))
abbrev iX11_untie : ax_I := (yX11_untie, cX11_untie, 5, (some .int))
abbrev iX11_pull : ax_I := (yX11_pull, cX11_pull, 4, (some .int))
abbrev iX11_wet : ax_I := (yX11_wet, cX11_wet, 4, (some .boolean))
abbrev iX11_cut : ax_I := (yX11_cut, cX11_cut, 5, (some .int))
abbrev iX11_splice : ax_I := (yX11_splice, cX11_splice, 5, (some .int))
abbrev iX11_sell : ax_I := (yX11_sell, cX11_sell, 4, (some .boolean))
abbrev iX11_days : ax_I := (yX11_days, cX11_days, 4, (some .int))
abbrev iX11_feed : ax_I := (yX11_feed, cX11_feed, 6, (some .int))
abbrev iX11_end : ax_I := (yX11_end, cX11_end, 2, (some .boolean))
abbrev iX11_text : ax_I := (yX11_text, cX11_text, 3, (some .int))
abbrev iX11_fault : ax_I := (yX11_fault, cX11_fault, 2, (some .int))
abbrev iX11_drill : ax_I := (yX11_drill, cX11_drill, 5, (some .int))
abbrev iX11_of : ax_I := (yX11_of, cX11_of, 4, (some .int))
abbrev iX11_at : ax_I := (yX11_at, cX11_at, 6, (some .int))
abbrev iX11_habit : ax_I := (yX11_habit, cX11_habit, 8, (some .int))
abbrev iX11_book : ax_I := (yX11_book, cX11_book, 3, (some .int))
abbrev iX11_would : ax_I := (yX11_would, cX11_would, 6, (some .int))
abbrev iX11_least : ax_I := (yX11_least, cX11_least, 6, (some .int))
abbrev iX11_train : ax_I := (yX11_train, cX11_train, 7, (some .int))
abbrev iX11_told : ax_I := (yX11_told, cX11_told, 3, (some .int))
abbrev iX11_fits : ax_I := (yX11_fits, cX11_fits, 5, (some .int))
abbrev iX11_weak : ax_I := (yX11_weak, cX11_weak, 5, (some .int))
abbrev iX11_ladder : ax_I := (yX11_ladder, cX11_ladder, 7, (some .int))
abbrev iX11_order : ax_I := (yX11_order, cX11_order, 2, (some .int))
abbrev iX11_yard : ax_I := (yX11_yard, cX11_yard, 3, (some .int))
abbrev iX11_moves : ax_I := (yX11_moves, cX11_moves, 3, (some .int))
abbrev iX11_shape : ax_I := (yX11_shape, cX11_shape, 3, (some .int))
abbrev iX11_unlike : ax_I := (yX11_unlike, cX11_unlike, 3, (some .int))
abbrev iX11_whose : ax_I := (yX11_whose, cX11_whose, 4, (some .int))
abbrev iX11_undo : ax_I := (yX11_undo, cX11_undo, 1, (some .boolean))
abbrev iX11_image : ax_I := (yX11_image, cX11_image, 2, (some .boolean))
abbrev iX11_look : ax_I := (yX11_look, cX11_look, 2, (some .int))
abbrev iX11_isIn : ax_I := (yX11_isIn, cX11_isIn, 2, (some .boolean))
abbrev iX11_keepPast : ax_I := (yX11_keepPast, cX11_keepPast, 3, none)
abbrev iX11_tieByHand : ax_I := (yX11_tieByHand, cX11_tieByHand, 5, none)
abbrev iX11_pullNow : ax_I := (yX11_pullNow, cX11_pullNow, 6, (some .boolean))
abbrev iX11_passDay : ax_I := (yX11_passDay, cX11_passDay, 5, (some .int))
abbrev iX11_doStep : ax_I := (yX11_doStep, cX11_doStep, 7, (some .boolean))
abbrev iX12_init : ax_I := (yX12_init, cX12_init, 2, none)
abbrev iX12_isIn : ax_I := (yX12_isIn, cX12_isIn, 3, (some .boolean))
abbrev iX12_lesser : ax_I := (yX12_lesser, cX12_lesser, 2, (some .int))
abbrev iX12_greater : ax_I := (yX12_greater, cX12_greater, 2, (some .int))
abbrev iX12_ofRope : ax_I := (yX12_ofRope, cX12_ofRope, 3, (some .int))
abbrev iX12_ropes : ax_I := (yX12_ropes, cX12_ropes, 4, none)
abbrev iX12_ofPlace : ax_I := (yX12_ofPlace, cX12_ofPlace, 4, (some .int))
abbrev iX12_places : ax_I := (yX12_places, cX12_places, 5, none)
abbrev iX12_isRope : ax_I := (yX12_isRope, cX12_isRope, 2, (some .boolean))
abbrev iX12_isPlace : ax_I := (yX12_isPlace, cX12_isPlace, 3, (some .boolean))
abbrev iX12_isKnot : ax_I := (yX12_isKnot, cX12_isKnot, 1, (some .boolean))
abbrev iX12_isTied : ax_I := (yX12_isTied, cX12_isTied, 3, (some .boolean))
abbrev iX12_habitOf : ax_I := (yX12_habitOf, cX12_habitOf, 4, (some .int))
abbrev iX12_forgets : ax_I := (yX12_forgets, cX12_forgets, 1, none)
abbrev iX12_state : ax_I := (yX12_state, cX12_state, 3, (some .int))
abbrev iX12_draw : ax_I := (yX12_draw, cX12_draw, 2, (some .int))
abbrev iX12_freeRope : ax_I := (yX12_freeRope, cX12_freeRope, 2, (some .int))
abbrev iX12_begins : ax_I := (yX12_begins, cX12_begins, 8, none)
abbrev iX12_habits : ax_I := (yX12_habits, cX12_habits, 6, none)
abbrev iX12_rope : ax_I := (yX12_rope, cX12_rope, 4, (some .int))
abbrev iX12_set : ax_I := (yX12_set, cX12_set, 4, (some .boolean))
abbrev iX12_feed : ax_I := (yX12_feed, cX12_feed, 8, (some .int))
abbrev iX12_end : ax_I := (yX12_end, cX12_end, 2, (some .boolean))
abbrev iX12_see : ax_I := (yX12_see, cX12_see, 2, (some .int))
abbrev iX12_isLetter : ax_I := (yX12_isLetter, cX12_isLetter, 1, (some .boolean))
abbrev iX12_isDigit : ax_I := (yX12_isDigit, cX12_isDigit, 1, (some .boolean))
abbrev iX12_is : ax_I := (yX12_is, cX12_is, 4, (some .boolean))
abbrev iX12_bothName : ax_I := (yX12_bothName, cX12_bothName, 1, (some .int))
abbrev iX12_tieName : ax_I := (yX12_tieName, cX12_tieName, 1, (some .int))
abbrev iX12_holdName : ax_I := (yX12_holdName, cX12_holdName, 1, (some .int))
abbrev iX12_drillWord : ax_I := (yX12_drillWord, cX12_drillWord, 1, (some .int))
abbrev iX12_word : ax_I := (yX12_word, cX12_word, 1, (some .int))
abbrev iX12_next0 : ax_I := (yX12_next0, cX12_next0, 3, none)
abbrev iX12_bad : ax_I := (yX12_bad, cX12_bad, 2, (some .boolean))
abbrev iX12_need : ax_I := (yX12_need, cX12_need, 2, (some .boolean))
abbrev iX12_lay : ax_I := (yX12_lay, cX12_lay, 3, none)
abbrev iX12_opens : ax_I := (yX12_opens, cX12_opens, 1, (some .boolean))
abbrev iX12_sumUp : ax_I := (yX12_sumUp, cX12_sumUp, 2, (some .boolean))
abbrev iX12_product : ax_I := (yX12_product, cX12_product, 3, (some .boolean))
abbrev iX12_unit : ax_I := (yX12_unit, cX12_unit, 2, (some .boolean))
abbrev iX12_any : ax_I := (yX12_any, cX12_any, 1, (some .boolean))
abbrev iX12_every : ax_I := (yX12_every, cX12_every, 1, (some .boolean))
abbrev iX12_oneTest : ax_I := (yX12_oneTest, cX12_oneTest, 2, (some .boolean))
abbrev iX12_aLine : ax_I := (yX12_aLine, cX12_aLine, 1, (some .boolean))
abbrev iX12_readsLaw : ax_I := (yX12_readsLaw, cX12_readsLaw, 2, (some .boolean))
abbrev iX12_number : ax_I := (yX12_number, cX12_number, 3, (some .boolean))
abbrev iX12_tells : ax_I := (yX12_tells, cX12_tells, 4, none)
abbrev iX12_greatestOf : ax_I := (yX12_greatestOf, cX12_greatestOf, 1, (some .int))
abbrev iX12_aStep : ax_I := (yX12_aStep, cX12_aStep, 4, (some .boolean))
abbrev iX12_someAgain : ax_I := (yX12_someAgain, cX12_someAgain, 7, (some .boolean))
abbrev iX12_someSteps : ax_I := (yX12_someSteps, cX12_someSteps, 3, (some .boolean))
abbrev iX12_readsDrill : ax_I := (yX12_readsDrill, cX12_readsDrill, 1, (some .boolean))
abbrev iX12_wrongHere : ax_I := (yX12_wrongHere, cX12_wrongHere, 3, (some .boolean))
abbrev iX12_readsShape : ax_I := (yX12_readsShape, cX12_readsShape, 4, (some .boolean))
abbrev iX12_putsLaw : ax_I := (yX12_putsLaw, cX12_putsLaw, 3, (some .int))
abbrev iX12_putsDrill : ax_I := (yX12_putsDrill, cX12_putsDrill, 2, (some .int))
abbrev iX12_putsShape : ax_I := (yX12_putsShape, cX12_putsShape, 3, (some .int))
abbrev iX12_reads : ax_I := (yX12_reads, cX12_reads, 2, (some .boolean))
abbrev iX12_text : ax_I := (yX12_text, cX12_text, 3, (some .int))
abbrev iX12_fault : ax_I := (yX12_fault, cX12_fault, 2, (some .int))
abbrev iX12_both : ax_I := (yX12_both, cX12_both, 3, (some .int))
abbrev iX12_comesTo : ax_I := (yX12_comesTo, cX12_comesTo, 8, (some .int))
abbrev iX12_lawSays : ax_I := (yX12_lawSays, cX12_lawSays, 5, (some .int))
abbrev iX12_tiedMany : ax_I := (yX12_tiedMany, cX12_tiedMany, 4, (some .int))
abbrev iX12_beside : ax_I := (yX12_beside, cX12_beside, 3, (some .int))
abbrev iX12_habitFacts : ax_I := (yX12_habitFacts, cX12_habitFacts, 6, none)
abbrev iX12_needWith : ax_I := (yX12_needWith, cX12_needWith, 6, (some .int))
abbrev iX12_needOf : ax_I := (yX12_needOf, cX12_needOf, 4, (some .int))
abbrev iX12_lossOf : ax_I := (yX12_lossOf, cX12_lossOf, 4, (some .int))
abbrev iX12_habitsAt : ax_I := (yX12_habitsAt, cX12_habitsAt, 5, (some .int))
abbrev iX12_strength : ax_I := (yX12_strength, cX12_strength, 4, (some .int))
abbrev iX12_callOf : ax_I := (yX12_callOf, cX12_callOf, 6, (some .int))
abbrev iX12_weakest : ax_I := (yX12_weakest, cX12_weakest, 4, (some .int))
abbrev iX12_notes : ax_I := (yX12_notes, cX12_notes, 7, none)
abbrev iX12_keeps : ax_I := (yX12_keeps, cX12_keeps, 2, none)
abbrev iX12_undo : ax_I := (yX12_undo, cX12_undo, 2, (some .boolean))
abbrev iX12_more : ax_I := (yX12_more, cX12_more, 5, none)
abbrev iX12_canTie : ax_I := (yX12_canTie, cX12_canTie, 4, (some .boolean))
abbrev iX12_ties : ax_I := (yX12_ties, cX12_ties, 5, none)
abbrev iX12_tie : ax_I := (yX12_tie, cX12_tie, 5, (some .boolean))
abbrev iX12_untie : ax_I := (yX12_untie, cX12_untie, 4, (some .int))
abbrev iX12_wets : ax_I := (yX12_wets, cX12_wets, 5, none)
abbrev iX12_wet : ax_I := (yX12_wet, cX12_wet, 3, (some .boolean))
abbrev iX12_copies : ax_I := (yX12_copies, cX12_copies, 6, none)
abbrev iX12_halves : ax_I := (yX12_halves, cX12_halves, 4, none)
abbrev iX12_clears : ax_I := (yX12_clears, cX12_clears, 4, none)
abbrev iX12_parts : ax_I := (yX12_parts, cX12_parts, 6, (some .int))
abbrev iX12_cut : ax_I := (yX12_cut, cX12_cut, 4, (some .int))
abbrev iX12_sinceBoth : ax_I := (yX12_sinceBoth, cX12_sinceBoth, 6, (some .int))
abbrev iX12_splice : ax_I := (yX12_splice, cX12_splice, 7, (some .int))
abbrev iX12_sell : ax_I := (yX12_sell, cX12_sell, 3, (some .boolean))
abbrev iX12_isAhead : ax_I := (yX12_isAhead, cX12_isAhead, 4, (some .boolean))
abbrev iX12_laysRow : ax_I := (yX12_laysRow, cX12_laysRow, 5, (some .int))
abbrev iX12_stretches : ax_I := (yX12_stretches, cX12_stretches, 7, none)
abbrev iX12_pulls : ax_I := (yX12_pulls, cX12_pulls, 4, (some .int))
abbrev iX12_pull : ax_I := (yX12_pull, cX12_pull, 3, (some .int))
abbrev iX12_forgetsAll : ax_I := (yX12_forgetsAll, cX12_forgetsAll, 4, none)
abbrev iX12_ropeSet : ax_I := (yX12_ropeSet, cX12_ropeSet, 3, (some .int))
abbrev iX12_aDay : ax_I := (yX12_aDay, cX12_aDay, 4, (some .int))
abbrev iX12_days : ax_I := (yX12_days, cX12_days, 4, (some .int))
abbrev iX12_isDone : ax_I := (yX12_isDone, cX12_isDone, 7, (some .boolean))
abbrev iX12_drill : ax_I := (yX12_drill, cX12_drill, 6, (some .int))
abbrev iX12_of : ax_I := (yX12_of, cX12_of, 3, (some .int))
abbrev iX12_allHabits : ax_I := (yX12_allHabits, cX12_allHabits, 4, (some .int))
abbrev iX12_at : ax_I := (yX12_at, cX12_at, 5, (some .int))
abbrev iX12_habit : ax_I := (yX12_habit, cX12_habit, 6, (some .int))
abbrev iX12_book : ax_I := (yX12_book, cX12_book, 3, (some .int))
abbrev iX12_laysAside : ax_I := (yX12_laysAside, cX12_laysAside, 2, none)
abbrev iX12_putsBack : ax_I := (yX12_putsBack, cX12_putsBack, 2, none)
abbrev iX12_wouldBy : ax_I := (yX12_wouldBy, cX12_wouldBy, 3, none)
abbrev iX12_would : ax_I := (yX12_would, cX12_would, 4, (some .int))
abbrev iX12_least : ax_I := (yX12_least, cX12_least, 4, (some .int))
abbrev iX12_train : ax_I := (yX12_train, cX12_train, 7, (some .int))
abbrev iX12_told : ax_I := (yX12_told, cX12_told, 3, (some .int))
abbrev iX12_fitsWith : ax_I := (yX12_fitsWith, cX12_fitsWith, 4, (some .boolean))
abbrev iX12_nextForce : ax_I := (yX12_nextForce, cX12_nextForce, 6, (some .int))
abbrev iX12_fits : ax_I := (yX12_fits, cX12_fits, 9, (some .int))
abbrev iX12_weak : ax_I := (yX12_weak, cX12_weak, 4, (some .int))
abbrev iX12_ladder : ax_I := (yX12_ladder, cX12_ladder, 4, (some .int))
abbrev iX12_order : ax_I := (yX12_order, cX12_order, 2, (some .int))
abbrev iX12_count : ax_I := (yX12_count, cX12_count, 3, (some .int))
abbrev iX12_yards : ax_I := (yX12_yards, cX12_yards, 4, none)
abbrev iX12_yard : ax_I := (yX12_yard, cX12_yard, 3, (some .int))
abbrev iX12_coded : ax_I := (yX12_coded, cX12_coded, 3, (some .int))
abbrev iX12_decodes : ax_I := (yX12_decodes, cX12_decodes, 4, none)
abbrev iX12_reaches : ax_I := (yX12_reaches, cX12_reaches, 3, none)
abbrev iX12_goesWith : ax_I := (yX12_goesWith, cX12_goesWith, 2, (some .boolean))
abbrev iX12_goes : ax_I := (yX12_goes, cX12_goes, 5, none)
abbrev iX12_comes : ax_I := (yX12_comes, cX12_comes, 7, none)
abbrev iX12_changes : ax_I := (yX12_changes, cX12_changes, 5, none)
abbrev iX12_movesOn : ax_I := (yX12_movesOn, cX12_movesOn, 5, none)
abbrev iX12_isShape : ax_I := (yX12_isShape, cX12_isShape, 1, (some .boolean))
abbrev iX12_shapeCode : ax_I := (yX12_shapeCode, cX12_shapeCode, 3, (some .int))
abbrev iX12_moves : ax_I := (yX12_moves, cX12_moves, 5, (some .int))
abbrev iX12_markOf : ax_I := (yX12_markOf, cX12_markOf, 6, (some .int))
abbrev iX12_shape : ax_I := (yX12_shape, cX12_shape, 3, (some .int))
abbrev iX12_unlike : ax_I := (yX12_unlike, cX12_unlike, 3, (some .int))
abbrev iX12_whose : ax_I := (yX12_whose, cX12_whose, 8, (some .int))
abbrev iX12_image : ax_I := (yX12_image, cX12_image, 3, (some .boolean))
abbrev iX12_look : ax_I := (yX12_look, cX12_look, 2, (some .int))
abbrev iJ7_fill_53178 : ax_I := (yJ7_fill_53178, cJ7_fill_53178, 4, none)
abbrev iL_law : ax_I := (⟨"RopeMindLaw", "law", "([I)Z"⟩, code, 4, some .boolean)
theorem tb1 {w : Cond} (h : w ∈ tables_1_1) : w ∈ lw_tbl := List.mem_append_right _ (List.mem_append_left _ h)
theorem tb2 {w : Cond} (h : w ∈ tables_1_2) : w ∈ lw_tbl := List.mem_append_right _ (List.mem_append_right _ (List.mem_append_left _ h))
theorem tb3 {w : Cond} (h : w ∈ tables_1_3) : w ∈ lw_tbl := List.mem_append_right _ (List.mem_append_right _ (List.mem_append_right _ (List.mem_append_left _ h)))
theorem tb4 {w : Cond} (h : w ∈ tables_1_4) : w ∈ lw_tbl := List.mem_append_right _ (List.mem_append_right _ (List.mem_append_right _ (List.mem_append_right _ (List.mem_append_left _ h))))
theorem tb5 {w : Cond} (h : w ∈ tables_1_5) : w ∈ lw_tbl := List.mem_append_right _ (List.mem_append_right _ (List.mem_append_right _ (List.mem_append_right _ (List.mem_append_right _ (List.mem_append_left _ h)))))
theorem tb6 {w : Cond} (h : w ∈ tables_1_6) : w ∈ lw_tbl := List.mem_append_right _ (List.mem_append_right _ (List.mem_append_right _ (List.mem_append_right _ (List.mem_append_right _ (List.mem_append_right _ (List.mem_append_left _ h))))))
theorem tb7 {w : Cond} (h : w ∈ tables_1_7) : w ∈ lw_tbl := List.mem_append_right _ (List.mem_append_right _ (List.mem_append_right _ (List.mem_append_right _ (List.mem_append_right _ (List.mem_append_right _ (List.mem_append_right _ (List.mem_append_left _ h)))))))
theorem tb8 {w : Cond} (h : w ∈ tables_1_8) : w ∈ lw_tbl := List.mem_append_right _ (List.mem_append_right _ (List.mem_append_right _ (List.mem_append_right _ (List.mem_append_right _ (List.mem_append_right _ (List.mem_append_right _ (List.mem_append_right _ (h))))))))
theorem pv1 {q : MethodName × Nat} (h : q ∈ lw_privs_1) : q ∈ lw_privs := List.mem_append_left _ h
theorem pv2 {q : MethodName × Nat} (h : q ∈ lw_privs_2) : q ∈ lw_privs := List.mem_append_right _ (List.mem_append_left _ h)
theorem pv3 {q : MethodName × Nat} (h : q ∈ lw_privs_3) : q ∈ lw_privs := List.mem_append_right _ (List.mem_append_right _ (List.mem_append_left _ h))
theorem pv4 {q : MethodName × Nat} (h : q ∈ lw_privs_4) : q ∈ lw_privs := List.mem_append_right _ (List.mem_append_right _ (List.mem_append_right _ (List.mem_append_left _ h)))
theorem pv5 {q : MethodName × Nat} (h : q ∈ lw_privs_5) : q ∈ lw_privs := List.mem_append_right _ (List.mem_append_right _ (List.mem_append_right _ (List.mem_append_right _ (List.mem_append_left _ h))))
theorem pv6 {q : MethodName × Nat} (h : q ∈ lw_privs_6) : q ∈ lw_privs := List.mem_append_right _ (List.mem_append_right _ (List.mem_append_right _ (List.mem_append_right _ (List.mem_append_right _ (List.mem_append_left _ h)))))
theorem pv7 {q : MethodName × Nat} (h : q ∈ lw_privs_7) : q ∈ lw_privs := List.mem_append_right _ (List.mem_append_right _ (List.mem_append_right _ (List.mem_append_right _ (List.mem_append_right _ (List.mem_append_right _ (List.mem_append_left _ h))))))
theorem pv8 {q : MethodName × Nat} (h : q ∈ lw_privs_8) : q ∈ lw_privs := List.mem_append_right _ (List.mem_append_right _ (List.mem_append_right _ (List.mem_append_right _ (List.mem_append_right _ (List.mem_append_right _ (List.mem_append_right _ (h)))))))
theorem tbs {q : MethodName × Nat} (h : q ∈ lw_privs) : Cond.selects q.1.cls q.1 q.1 ∈ lw_tbl := List.mem_append_left _ (List.mem_map_of_mem h)
theorem gwX0 : ∀ w ∈ wsX00, goodWord w = true := by decide +kernel
theorem ggX0 : ∀ w ∈ wsX00, w ∈ ax_good := fun w h => ax_gd (inX0 w h) (gwX0 w h)
theorem gwX1 : ∀ w ∈ wsX10, goodWord w = true := by decide +kernel
theorem ggX1 : ∀ w ∈ wsX10, w ∈ ax_good := fun w h => ax_gd (inX1 w h) (gwX1 w h)
theorem gwX2 : ∀ w ∈ wsX20, goodWord w = true := by decide +kernel
theorem ggX2 : ∀ w ∈ wsX20, w ∈ ax_good := fun w h => ax_gd (inX2 w h) (gwX2 w h)
theorem gwX3 : ∀ w ∈ wsX30, goodWord w = true := by decide +kernel
theorem ggX3 : ∀ w ∈ wsX30, w ∈ ax_good := fun w h => ax_gd (inX3 w h) (gwX3 w h)
theorem gwX4 : ∀ w ∈ wsX40, goodWord w = true := by decide +kernel
theorem ggX4 : ∀ w ∈ wsX40, w ∈ ax_good := fun w h => ax_gd (inX4 w h) (gwX4 w h)
theorem gwX5 : ∀ w ∈ wsX50, goodWord w = true := by decide +kernel
theorem ggX5 : ∀ w ∈ wsX50, w ∈ ax_good := fun w h => ax_gd (inX5 w h) (gwX5 w h)
theorem gwX6 : ∀ w ∈ wsX60, goodWord w = true := by decide +kernel
theorem ggX6 : ∀ w ∈ wsX60, w ∈ ax_good := fun w h => ax_gd (inX6 w h) (gwX6 w h)
theorem gwX7 : ∀ w ∈ wsX70, goodWord w = true := by decide +kernel
theorem ggX7 : ∀ w ∈ wsX70, w ∈ ax_good := fun w h => ax_gd (inX7 w h) (gwX7 w h)
theorem gwX8 : ∀ w ∈ wsX80, goodWord w = true := by decide +kernel
theorem ggX8 : ∀ w ∈ wsX80, w ∈ ax_good := fun w h => ax_gd (inX8 w h) (gwX8 w h)
theorem gwX9 : ∀ w ∈ wsX90, goodWord w = true := by decide +kernel
theorem ggX9 : ∀ w ∈ wsX90, w ∈ ax_good := fun w h => ax_gd (inX9 w h) (gwX9 w h)
theorem gwX10 : ∀ w ∈ wsX100, goodWord w = true := by decide +kernel
theorem ggX10 : ∀ w ∈ wsX100, w ∈ ax_good := fun w h => ax_gd (inX10 w h) (gwX10 w h)
theorem gwX11 : ∀ w ∈ wsX110, goodWord w = true := by decide +kernel
theorem ggX11 : ∀ w ∈ wsX110, w ∈ ax_good := fun w h => ax_gd (inX11 w h) (gwX11 w h)
theorem gwX12 : ∀ w ∈ wsX120, goodWord w = true := by decide +kernel
theorem ggX12 : ∀ w ∈ wsX120, w ∈ ax_good := fun w h => ax_gd (inX12 w h) (gwX12 w h)
theorem nI_X0 : Cond.initialized RX0 ∈ ax_good := ax_gd (tb1 (List.mem_of_getElem? (i := 5) rfl)) rfl
theorem nI_X1 : Cond.initialized RX1 ∈ ax_good := ax_gd (tb1 (List.mem_of_getElem? (i := 7) rfl)) rfl
theorem nI_X2 : Cond.initialized RX2 ∈ ax_good := ax_gd (tb1 (List.mem_of_getElem? (i := 10) rfl)) rfl
theorem nI_X3 : Cond.initialized RX3 ∈ ax_good := ax_gd (tb1 (List.mem_of_getElem? (i := 8) rfl)) rfl
theorem nI_X4 : Cond.initialized RX4 ∈ ax_good := ax_gd (tb1 (List.mem_of_getElem? (i := 6) rfl)) rfl
theorem nI_X5 : Cond.initialized RX5 ∈ ax_good := ax_gd (tb1 (List.mem_of_getElem? (i := 13) rfl)) rfl
theorem nI_X6 : Cond.initialized RX6 ∈ ax_good := ax_gd (tb1 (List.mem_of_getElem? (i := 11) rfl)) rfl
theorem nI_X7 : Cond.initialized RX7 ∈ ax_good := ax_gd (tb1 (List.mem_of_getElem? (i := 4) rfl)) rfl
theorem nI_X8 : Cond.initialized RX8 ∈ ax_good := ax_gd (tb1 (List.mem_of_getElem? (i := 9) rfl)) rfl
theorem nI_X9 : Cond.initialized RX9 ∈ ax_good := ax_gd (tb1 (List.mem_of_getElem? (i := 2) rfl)) rfl
theorem nI_X10 : Cond.initialized RX10 ∈ ax_good := ax_gd (tb1 (List.mem_of_getElem? (i := 12) rfl)) rfl
theorem nI_X11 : Cond.initialized RX11 ∈ ax_good := ax_gd (tb1 (List.mem_of_getElem? (i := 1) rfl)) rfl
theorem nI_X12 : Cond.initialized RX12 ∈ ax_good := ax_gd (tb1 (List.mem_of_getElem? (i := 14) rfl)) rfl
theorem nI_J7 : Cond.initialized RJ7 ∈ ax_good := ax_gd (tb1 (List.mem_of_getElem? (i := 3) rfl)) rfl
theorem cbX0_init : ax_CB iX0_init 0 := ⟨nI_X0, ax_gd (tb1 (List.mem_of_getElem? (i := 133) rfl)) rfl, ⟨by decide +kernel, by decide +kernel, by decide +kernel⟩, by decide⟩
theorem cbX0_copyFrom : ax_CB iX0_copyFrom 1 := ⟨nI_X0, ax_gd (tb5 (List.mem_of_getElem? (i := 177) rfl)) rfl, ⟨by decide +kernel, by decide +kernel, by decide +kernel⟩, by decide⟩
theorem cbX0_write : ax_CB iX0_write 6 := ⟨nI_X0, ax_gd (tb3 (List.mem_of_getElem? (i := 31) rfl)) rfl, ⟨by decide +kernel, by decide +kernel, by decide +kernel⟩, by decide⟩
theorem cbX0_entry : ax_CB iX0_entry 2 := ⟨nI_X0, ax_gd (tb5 (List.mem_of_getElem? (i := 18) rfl)) rfl, ⟨by decide +kernel, by decide +kernel, by decide +kernel⟩, by decide⟩
theorem cbX0_latestHand : ax_CB iX0_latestHand 3 := ⟨nI_X0, ax_gd (tb5 (List.mem_of_getElem? (i := 165) rfl)) rfl, ⟨by decide +kernel, by decide +kernel, by decide +kernel⟩, by decide⟩
theorem cbX0_salesOf : ax_CB iX0_salesOf 2 := ⟨nI_X0, ax_gd (tb5 (List.mem_of_getElem? (i := 160) rfl)) rfl, ⟨by decide +kernel, by decide +kernel, by decide +kernel⟩, by decide⟩
theorem cbX1_init : ax_CB iX1_init 0 := ⟨nI_X1, ax_gd (tb1 (List.mem_of_getElem? (i := 151) rfl)) rfl, ⟨by decide +kernel, by decide +kernel, by decide +kernel⟩, by decide⟩
theorem cbX1_copyFrom : ax_CB iX1_copyFrom 1 := ⟨nI_X1, ax_gd (tb4 (List.mem_of_getElem? (i := 198) rfl)) rfl, ⟨by decide +kernel, by decide +kernel, by decide +kernel⟩, by decide⟩
theorem cbX1_restDays : ax_CB iX1_restDays 0 := ⟨nI_X1, ax_gd (tb4 (List.mem_of_getElem? (i := 224) rfl)) rfl, ⟨by decide +kernel, by decide +kernel, by decide +kernel⟩, by decide⟩
theorem cbX1_readAll : ax_CB iX1_readAll 1 := ⟨nI_X1, ax_gd (tb4 (List.mem_of_getElem? (i := 163) rfl)) rfl, ⟨by decide +kernel, by decide +kernel, by decide +kernel⟩, by decide⟩
theorem cbX1_readAgain : ax_CB iX1_readAgain 1 := ⟨nI_X1, ax_gd (tb4 (List.mem_of_getElem? (i := 179) rfl)) rfl, ⟨by decide +kernel, by decide +kernel, by decide +kernel⟩, by decide⟩
theorem cbX1_closeAgain : ax_CB iX1_closeAgain 0 := ⟨nI_X1, ax_gd (tb4 (List.mem_of_getElem? (i := 170) rfl)) rfl, ⟨by decide +kernel, by decide +kernel, by decide +kernel⟩, by decide⟩
theorem cbX1_addStep : ax_CB iX1_addStep 3 := ⟨nI_X1, ax_gd (tb4 (List.mem_of_getElem? (i := 174) rfl)) rfl, ⟨by decide +kernel, by decide +kernel, by decide +kernel⟩, by decide⟩
theorem cbX1_readStep : ax_CB iX1_readStep 1 := ⟨nI_X1, ax_gd (tb4 (List.mem_of_getElem? (i := 190) rfl)) rfl, ⟨by decide +kernel, by decide +kernel, by decide +kernel⟩, by decide⟩
theorem cbX1_mostOf : ax_CB iX1_mostOf 1 := ⟨nI_X1, ax_gd (tb4 (List.mem_of_getElem? (i := 194) rfl)) rfl, ⟨by decide +kernel, by decide +kernel, by decide +kernel⟩, by decide⟩
theorem cbX2_init : ax_CB iX2_init 1 := ⟨nI_X2, ax_gd (tb2 (List.mem_of_getElem? (i := 44) rfl)) rfl, ⟨by decide +kernel, by decide +kernel, by decide +kernel⟩, by decide⟩
theorem cbX2_held : ax_CB iX2_held 2 := ⟨nI_X2, ax_gd (tb3 (List.mem_of_getElem? (i := 83) rfl)) rfl, ⟨by decide +kernel, by decide +kernel, by decide +kernel⟩, by decide⟩
theorem cbX2_askHabit : ax_CB iX2_askHabit 4 := ⟨nI_X2, ax_gd (tb3 (List.mem_of_getElem? (i := 67) rfl)) rfl, ⟨by decide +kernel, by decide +kernel, by decide +kernel⟩, by decide⟩
theorem cbX2_needOf : ax_CB iX2_needOf 4 := ⟨nI_X2, ax_gd (tb3 (List.mem_of_getElem? (i := 63) rfl)) rfl, ⟨by decide +kernel, by decide +kernel, by decide +kernel⟩, by decide⟩
theorem cbX2_lossOf : ax_CB iX2_lossOf 4 := ⟨nI_X2, ax_gd (tb3 (List.mem_of_getElem? (i := 163) rfl)) rfl, ⟨by decide +kernel, by decide +kernel, by decide +kernel⟩, by decide⟩
theorem cbX2_strengthOf : ax_CB iX2_strengthOf 3 := ⟨nI_X2, ax_gd (tb3 (List.mem_of_getElem? (i := 92) rfl)) rfl, ⟨by decide +kernel, by decide +kernel, by decide +kernel⟩, by decide⟩
theorem cbX2_weakestBelow : ax_CB iX2_weakestBelow 3 := ⟨nI_X2, ax_gd (tb3 (List.mem_of_getElem? (i := 88) rfl)) rfl, ⟨by decide +kernel, by decide +kernel, by decide +kernel⟩, by decide⟩
theorem cbX2_forget : ax_CB iX2_forget 2 := ⟨nI_X2, ax_gd (tb3 (List.mem_of_getElem? (i := 159) rfl)) rfl, ⟨by decide +kernel, by decide +kernel, by decide +kernel⟩, by decide⟩
theorem cbX2_findPasts : ax_CB iX2_findPasts 3 := ⟨nI_X2, ax_gd (tb5 (List.mem_of_getElem? (i := 48) rfl)) rfl, ⟨by decide +kernel, by decide +kernel, by decide +kernel⟩, by decide⟩
theorem cbX2_agreesWithTold : ax_CB iX2_agreesWithTold 2 := ⟨nI_X2, ax_gd (tb5 (List.mem_of_getElem? (i := 54) rfl)) rfl, ⟨by decide +kernel, by decide +kernel, by decide +kernel⟩, by decide⟩
theorem cbX2_tellingForce : ax_CB iX2_tellingForce 0 := ⟨nI_X2, ax_gd (tb5 (List.mem_of_getElem? (i := 58) rfl)) rfl, ⟨by decide +kernel, by decide +kernel, by decide +kernel⟩, by decide⟩
theorem cbX3_init : ax_CB iX3_init 0 := ⟨nI_X3, ax_gd (tb1 (List.mem_of_getElem? (i := 182) rfl)) rfl, ⟨by decide +kernel, by decide +kernel, by decide +kernel⟩, by decide⟩
theorem cbX3_copyFrom : ax_CB iX3_copyFrom 1 := ⟨nI_X3, ax_gd (tb4 (List.mem_of_getElem? (i := 157) rfl)) rfl, ⟨by decide +kernel, by decide +kernel, by decide +kernel⟩, by decide⟩
theorem cbX3_answer : ax_CB iX3_answer 3 := ⟨nI_X3, ax_gd (tb3 (List.mem_of_getElem? (i := 80) rfl)) rfl, ⟨by decide +kernel, by decide +kernel, by decide +kernel⟩, by decide⟩
theorem cbX3_readAll : ax_CB iX3_readAll 1 := ⟨nI_X3, ax_gd (tb4 (List.mem_of_getElem? (i := 91) rfl)) rfl, ⟨by decide +kernel, by decide +kernel, by decide +kernel⟩, by decide⟩
theorem cbX3_readLine : ax_CB iX3_readLine 1 := ⟨nI_X3, ax_gd (tb4 (List.mem_of_getElem? (i := 99) rfl)) rfl, ⟨by decide +kernel, by decide +kernel, by decide +kernel⟩, by decide⟩
theorem cbX3_readCheck : ax_CB iX3_readCheck 3 := ⟨nI_X3, ax_gd (tb4 (List.mem_of_getElem? (i := 147) rfl)) rfl, ⟨by decide +kernel, by decide +kernel, by decide +kernel⟩, by decide⟩
theorem cbX3_readSum : ax_CB iX3_readSum 1 := ⟨nI_X3, ax_gd (tb4 (List.mem_of_getElem? (i := 115) rfl)) rfl, ⟨by decide +kernel, by decide +kernel, by decide +kernel⟩, by decide⟩
theorem cbX3_readProduct : ax_CB iX3_readProduct 1 := ⟨nI_X3, ax_gd (tb4 (List.mem_of_getElem? (i := 119) rfl)) rfl, ⟨by decide +kernel, by decide +kernel, by decide +kernel⟩, by decide⟩
theorem cbX3_readUnit : ax_CB iX3_readUnit 1 := ⟨nI_X3, ax_gd (tb4 (List.mem_of_getElem? (i := 123) rfl)) rfl, ⟨by decide +kernel, by decide +kernel, by decide +kernel⟩, by decide⟩
theorem cbX3_put : ax_CB iX3_put 1 := ⟨nI_X3, ax_gd (tb4 (List.mem_of_getElem? (i := 139) rfl)) rfl, ⟨by decide +kernel, by decide +kernel, by decide +kernel⟩, by decide⟩
theorem cbX4_init : ax_CB iX4_init 0 := ⟨nI_X4, ax_gd (tb1 (List.mem_of_getElem? (i := 143) rfl)) rfl, ⟨by decide +kernel, by decide +kernel, by decide +kernel⟩, by decide⟩
theorem cbX4_copyFrom : ax_CB iX4_copyFrom 1 := ⟨nI_X4, ax_gd (tb5 (List.mem_of_getElem? (i := 182) rfl)) rfl, ⟨by decide +kernel, by decide +kernel, by decide +kernel⟩, by decide⟩
theorem cbX4_readLetters : ax_CB iX4_readLetters 2 := ⟨nI_X4, ax_gd (tb4 (List.mem_of_getElem? (i := 203) rfl)) rfl, ⟨by decide +kernel, by decide +kernel, by decide +kernel⟩, by decide⟩
theorem cbX4_letterFor : ax_CB iX4_letterFor 1 := ⟨nI_X4, ax_gd (tb4 (List.mem_of_getElem? (i := 207) rfl)) rfl, ⟨by decide +kernel, by decide +kernel, by decide +kernel⟩, by decide⟩
theorem cbX4_countOf : ax_CB iX4_countOf 2 := ⟨nI_X4, ax_gd (tb5 (List.mem_of_getElem? (i := 108) rfl)) rfl, ⟨by decide +kernel, by decide +kernel, by decide +kernel⟩, by decide⟩
theorem cbX4_balanceOf : ax_CB iX4_balanceOf 1 := ⟨nI_X4, ax_gd (tb5 (List.mem_of_getElem? (i := 104) rfl)) rfl, ⟨by decide +kernel, by decide +kernel, by decide +kernel⟩, by decide⟩
theorem cbX4_twistsOf : ax_CB iX4_twistsOf 1 := ⟨nI_X4, ax_gd (tb5 (List.mem_of_getElem? (i := 112) rfl)) rfl, ⟨by decide +kernel, by decide +kernel, by decide +kernel⟩, by decide⟩
theorem cbX4_marksDiffer : ax_CB iX4_marksDiffer 2 := ⟨nI_X4, ax_gd (tb5 (List.mem_of_getElem? (i := 100) rfl)) rfl, ⟨by decide +kernel, by decide +kernel, by decide +kernel⟩, by decide⟩
theorem cbX4_letterOf : ax_CB iX4_letterOf 2 := ⟨nI_X4, ax_gd (tb5 (List.mem_of_getElem? (i := 148) rfl)) rfl, ⟨by decide +kernel, by decide +kernel, by decide +kernel⟩, by decide⟩
theorem cbX4_codeOf : ax_CB iX4_codeOf 1 := ⟨nI_X4, ax_gd (tb5 (List.mem_of_getElem? (i := 116) rfl)) rfl, ⟨by decide +kernel, by decide +kernel, by decide +kernel⟩, by decide⟩
theorem cbX5_init : ax_CB iX5_init 0 := ⟨nI_X5, ax_gd (tb2 (List.mem_of_getElem? (i := 129) rfl)) rfl, ⟨by decide +kernel, by decide +kernel, by decide +kernel⟩, by decide⟩
theorem cbX5_behind : ax_CB iX5_behind 2 := ⟨nI_X5, ax_gd (tb5 (List.mem_of_getElem? (i := 119) rfl)) rfl, ⟨by decide +kernel, by decide +kernel, by decide +kernel⟩, by decide⟩
theorem cbX5_fewest : ax_CB iX5_fewest 2 := ⟨nI_X5, ax_gd (tb5 (List.mem_of_getElem? (i := 123) rfl)) rfl, ⟨by decide +kernel, by decide +kernel, by decide +kernel⟩, by decide⟩
theorem cbX5_spell : ax_CB iX5_spell 1 := ⟨nI_X5, ax_gd (tb5 (List.mem_of_getElem? (i := 129) rfl)) rfl, ⟨by decide +kernel, by decide +kernel, by decide +kernel⟩, by decide⟩
theorem cbX5_reachAll : ax_CB iX5_reachAll 1 := ⟨nI_X5, ax_gd (tb5 (List.mem_of_getElem? (i := 133) rfl)) rfl, ⟨by decide +kernel, by decide +kernel, by decide +kernel⟩, by decide⟩
theorem cbX5_reach : ax_CB iX5_reach 5 := ⟨nI_X5, ax_gd (tb5 (List.mem_of_getElem? (i := 137) rfl)) rfl, ⟨by decide +kernel, by decide +kernel, by decide +kernel⟩, by decide⟩
theorem cbX6_init : ax_CB iX6_init 1 := ⟨nI_X6, ax_gd (tb2 (List.mem_of_getElem? (i := 75) rfl)) rfl, ⟨by decide +kernel, by decide +kernel, by decide +kernel⟩, by decide⟩
theorem cbX6_lineUp : ax_CB iX6_lineUp 1 := ⟨nI_X6, ax_gd (tb3 (List.mem_of_getElem? (i := 55) rfl)) rfl, ⟨by decide +kernel, by decide +kernel, by decide +kernel⟩, by decide⟩
theorem cbX6_tieAll : ax_CB iX6_tieAll 3 := ⟨nI_X6, ax_gd (tb3 (List.mem_of_getElem? (i := 51) rfl)) rfl, ⟨by decide +kernel, by decide +kernel, by decide +kernel⟩, by decide⟩
theorem cbX6_tiesFirst : ax_CB iX6_tiesFirst 5 := ⟨nI_X6, ax_gd (tb5 (List.mem_of_getElem? (i := 35) rfl)) rfl, ⟨by decide +kernel, by decide +kernel, by decide +kernel⟩, by decide⟩
theorem cbX7_init : ax_CB iX7_init 0 := ⟨nI_X7, ax_gd (tb1 (List.mem_of_getElem? (i := 44) rfl)) rfl, ⟨by decide +kernel, by decide +kernel, by decide +kernel⟩, by decide⟩
theorem cbX7_copyFrom : ax_CB iX7_copyFrom 1 := ⟨nI_X7, ax_gd (tb3 (List.mem_of_getElem? (i := 11) rfl)) rfl, ⟨by decide +kernel, by decide +kernel, by decide +kernel⟩, by decide⟩
theorem cbX7_begin : ax_CB iX7_begin 3 := ⟨nI_X7, ax_gd (tb2 (List.mem_of_getElem? (i := 218) rfl)) rfl, ⟨by decide +kernel, by decide +kernel, by decide +kernel⟩, by decide⟩
theorem cbX7_isUntied : ax_CB iX7_isUntied 1 := ⟨nI_X7, ax_gd (tb2 (List.mem_of_getElem? (i := 236) rfl)) rfl, ⟨by decide +kernel, by decide +kernel, by decide +kernel⟩, by decide⟩
theorem cbX7_isTied : ax_CB iX7_isTied 1 := ⟨nI_X7, ax_gd (tb3 (List.mem_of_getElem? (i := 39) rfl)) rfl, ⟨by decide +kernel, by decide +kernel, by decide +kernel⟩, by decide⟩
theorem cbX7_callAt : ax_CB iX7_callAt 1 := ⟨nI_X7, ax_gd (tb3 (List.mem_of_getElem? (i := 59) rfl)) rfl, ⟨by decide +kernel, by decide +kernel, by decide +kernel⟩, by decide⟩
theorem cbX7_tiesBeside : ax_CB iX7_tiesBeside 1 := ⟨nI_X7, ax_gd (tb3 (List.mem_of_getElem? (i := 71) rfl)) rfl, ⟨by decide +kernel, by decide +kernel, by decide +kernel⟩, by decide⟩
theorem cbX7_tiesInAll : ax_CB iX7_tiesInAll 0 := ⟨nI_X7, ax_gd (tb3 (List.mem_of_getElem? (i := 76) rfl)) rfl, ⟨by decide +kernel, by decide +kernel, by decide +kernel⟩, by decide⟩
theorem cbX7_habitsAt : ax_CB iX7_habitsAt 1 := ⟨nI_X7, ax_gd (tb3 (List.mem_of_getElem? (i := 97) rfl)) rfl, ⟨by decide +kernel, by decide +kernel, by decide +kernel⟩, by decide⟩
theorem cbX7_habitsInAll : ax_CB iX7_habitsInAll 0 := ⟨nI_X7, ax_gd (tb4 (List.mem_of_getElem? (i := 237) rfl)) rfl, ⟨by decide +kernel, by decide +kernel, by decide +kernel⟩, by decide⟩
theorem cbX7_addHabit : ax_CB iX7_addHabit 4 := ⟨nI_X7, ax_gd (tb3 (List.mem_of_getElem? (i := 24) rfl)) rfl, ⟨by decide +kernel, by decide +kernel, by decide +kernel⟩, by decide⟩
theorem cbX7_tieKnot : ax_CB iX7_tieKnot 4 := ⟨nI_X7, ax_gd (tb3 (List.mem_of_getElem? (i := 20) rfl)) rfl, ⟨by decide +kernel, by decide +kernel, by decide +kernel⟩, by decide⟩
theorem cbX7_wetTo : ax_CB iX7_wetTo 2 := ⟨nI_X7, ax_gd (tb3 (List.mem_of_getElem? (i := 123) rfl)) rfl, ⟨by decide +kernel, by decide +kernel, by decide +kernel⟩, by decide⟩
theorem cbX7_forgetBeside : ax_CB iX7_forgetBeside 1 := ⟨nI_X7, ax_gd (tb3 (List.mem_of_getElem? (i := 106) rfl)) rfl, ⟨by decide +kernel, by decide +kernel, by decide +kernel⟩, by decide⟩
theorem cbX7_takeTail : ax_CB iX7_takeTail 2 := ⟨nI_X7, ax_gd (tb3 (List.mem_of_getElem? (i := 110) rfl)) rfl, ⟨by decide +kernel, by decide +kernel, by decide +kernel⟩, by decide⟩
theorem cbX7_copyPlaces : ax_CB iX7_copyPlaces 4 := ⟨nI_X7, ax_gd (tb3 (List.mem_of_getElem? (i := 115) rfl)) rfl, ⟨by decide +kernel, by decide +kernel, by decide +kernel⟩, by decide⟩
theorem cbX7_append : ax_CB iX7_append 1 := ⟨nI_X7, ax_gd (tb3 (List.mem_of_getElem? (i := 136) rfl)) rfl, ⟨by decide +kernel, by decide +kernel, by decide +kernel⟩, by decide⟩
theorem cbX7_marry : ax_CB iX7_marry 2 := ⟨nI_X7, ax_gd (tb3 (List.mem_of_getElem? (i := 143) rfl)) rfl, ⟨by decide +kernel, by decide +kernel, by decide +kernel⟩, by decide⟩
theorem cbX8_init : ax_CB iX8_init 0 := ⟨nI_X8, ax_gd (tb2 (List.mem_of_getElem? (i := 1) rfl)) rfl, ⟨by decide +kernel, by decide +kernel, by decide +kernel⟩, by decide⟩
theorem cbX8_feedNumber : ax_CB iX8_feedNumber 1 := ⟨nI_X8, ax_gd (tb3 (List.mem_of_getElem? (i := 182) rfl)) rfl, ⟨by decide +kernel, by decide +kernel, by decide +kernel⟩, by decide⟩
theorem cbX8_isBlank : ax_CB iX8_isBlank 1 := ⟨nI_X8, ax_gd (tb4 (List.mem_of_getElem? (i := 31) rfl)) rfl, ⟨by decide +kernel, by decide +kernel, by decide +kernel⟩, by decide⟩
theorem cbX8_isLetter : ax_CB iX8_isLetter 1 := ⟨nI_X8, ax_gd (tb3 (List.mem_of_getElem? (i := 200) rfl)) rfl, ⟨by decide +kernel, by decide +kernel, by decide +kernel⟩, by decide⟩
theorem cbX8_isDigit : ax_CB iX8_isDigit 1 := ⟨nI_X8, ax_gd (tb4 (List.mem_of_getElem? (i := 23) rfl)) rfl, ⟨by decide +kernel, by decide +kernel, by decide +kernel⟩, by decide⟩
theorem cbX8_scan : ax_CB iX8_scan 1 := ⟨nI_X8, ax_gd (tb3 (List.mem_of_getElem? (i := 197) rfl)) rfl, ⟨by decide +kernel, by decide +kernel, by decide +kernel⟩, by decide⟩
theorem cbX8_add : ax_CB iX8_add 3 := ⟨nI_X8, ax_gd (tb4 (List.mem_of_getElem? (i := 20) rfl)) rfl, ⟨by decide +kernel, by decide +kernel, by decide +kernel⟩, by decide⟩
theorem cbX8_numberFor : ax_CB iX8_numberFor 2 := ⟨nI_X8, ax_gd (tb4 (List.mem_of_getElem? (i := 28) rfl)) rfl, ⟨by decide +kernel, by decide +kernel, by decide +kernel⟩, by decide⟩
theorem cbX8_wordFor : ax_CB iX8_wordFor 3 := ⟨nI_X8, ax_gd (tb3 (List.mem_of_getElem? (i := 204) rfl)) rfl, ⟨by decide +kernel, by decide +kernel, by decide +kernel⟩, by decide⟩
theorem cbX8_standsAt : ax_CB iX8_standsAt 4 := ⟨nI_X8, ax_gd (tb4 (List.mem_of_getElem? (i := 16) rfl)) rfl, ⟨by decide +kernel, by decide +kernel, by decide +kernel⟩, by decide⟩
theorem cbX8_isEnd : ax_CB iX8_isEnd 0 := ⟨nI_X8, ax_gd (tb4 (List.mem_of_getElem? (i := 95) rfl)) rfl, ⟨by decide +kernel, by decide +kernel, by decide +kernel⟩, by decide⟩
theorem cbX8_isNumber : ax_CB iX8_isNumber 0 := ⟨nI_X8, ax_gd (tb4 (List.mem_of_getElem? (i := 135) rfl)) rfl, ⟨by decide +kernel, by decide +kernel, by decide +kernel⟩, by decide⟩
theorem cbX8_isWord : ax_CB iX8_isWord 1 := ⟨nI_X8, ax_gd (tb4 (List.mem_of_getElem? (i := 103) rfl)) rfl, ⟨by decide +kernel, by decide +kernel, by decide +kernel⟩, by decide⟩
theorem cbX8_isAsked : ax_CB iX8_isAsked 1 := ⟨nI_X8, ax_gd (tb4 (List.mem_of_getElem? (i := 131) rfl)) rfl, ⟨by decide +kernel, by decide +kernel, by decide +kernel⟩, by decide⟩
theorem cbX8_isSign : ax_CB iX8_isSign 1 := ⟨nI_X8, ax_gd (tb4 (List.mem_of_getElem? (i := 143) rfl)) rfl, ⟨by decide +kernel, by decide +kernel, by decide +kernel⟩, by decide⟩
theorem cbX8_value : ax_CB iX8_value 0 := ⟨nI_X8, ax_gd (tb4 (List.mem_of_getElem? (i := 127) rfl)) rfl, ⟨by decide +kernel, by decide +kernel, by decide +kernel⟩, by decide⟩
theorem cbX8_step : ax_CB iX8_step 0 := ⟨nI_X8, ax_gd (tb4 (List.mem_of_getElem? (i := 111) rfl)) rfl, ⟨by decide +kernel, by decide +kernel, by decide +kernel⟩, by decide⟩
theorem cbX8_pass : ax_CB iX8_pass 2 := ⟨nI_X8, ax_gd (tb4 (List.mem_of_getElem? (i := 151) rfl)) rfl, ⟨by decide +kernel, by decide +kernel, by decide +kernel⟩, by decide⟩
theorem cbX8_passNumber : ax_CB iX8_passNumber 2 := ⟨nI_X8, ax_gd (tb4 (List.mem_of_getElem? (i := 185) rfl)) rfl, ⟨by decide +kernel, by decide +kernel, by decide +kernel⟩, by decide⟩
theorem cbX8_fail : ax_CB iX8_fail 1 := ⟨nI_X8, ax_gd (tb4 (List.mem_of_getElem? (i := 107) rfl)) rfl, ⟨by decide +kernel, by decide +kernel, by decide +kernel⟩, by decide⟩
theorem cbX8_failAt : ax_CB iX8_failAt 2 := ⟨nI_X8, ax_gd (tb4 (List.mem_of_getElem? (i := 211) rfl)) rfl, ⟨by decide +kernel, by decide +kernel, by decide +kernel⟩, by decide⟩
theorem cbX9_init : ax_CB iX9_init 0 := ⟨nI_X9, ax_gd (tb1 (List.mem_of_getElem? (i := 34) rfl)) rfl, ⟨by decide +kernel, by decide +kernel, by decide +kernel⟩, by decide⟩
theorem cbX9_copyFrom : ax_CB iX9_copyFrom 1 := ⟨nI_X9, ax_gd (tb3 (List.mem_of_getElem? (i := 4) rfl)) rfl, ⟨by decide +kernel, by decide +kernel, by decide +kernel⟩, by decide⟩
theorem cbX9_ropeAt : ax_CB iX9_ropeAt 1 := ⟨nI_X9, ax_gd (tb2 (List.mem_of_getElem? (i := 231) rfl)) rfl, ⟨by decide +kernel, by decide +kernel, by decide +kernel⟩, by decide⟩
theorem cbX9_freeNumber : ax_CB iX9_freeNumber 0 := ⟨nI_X9, ax_gd (tb2 (List.mem_of_getElem? (i := 211) rfl)) rfl, ⟨by decide +kernel, by decide +kernel, by decide +kernel⟩, by decide⟩
theorem cbX9_ropeSet : ax_CB iX9_ropeSet 0 := ⟨nI_X9, ax_gd (tb3 (List.mem_of_getElem? (i := 174) rfl)) rfl, ⟨by decide +kernel, by decide +kernel, by decide +kernel⟩, by decide⟩
theorem cbX9_drawBelow : ax_CB iX9_drawBelow 1 := ⟨nI_X9, ax_gd (tb3 (List.mem_of_getElem? (i := 168) rfl)) rfl, ⟨by decide +kernel, by decide +kernel, by decide +kernel⟩, by decide⟩
theorem cbX9_part : ax_CB iX9_part 2 := ⟨nI_X9, ax_gd (tb3 (List.mem_of_getElem? (i := 101) rfl)) rfl, ⟨by decide +kernel, by decide +kernel, by decide +kernel⟩, by decide⟩
theorem cbX10_init : ax_CB iX10_init 0 := ⟨nI_X10, ax_gd (tb2 (List.mem_of_getElem? (i := 102) rfl)) rfl, ⟨by decide +kernel, by decide +kernel, by decide +kernel⟩, by decide⟩
theorem cbX10_plan : ax_CB iX10_plan 2 := ⟨nI_X10, ax_gd (tb5 (List.mem_of_getElem? (i := 78) rfl)) rfl, ⟨by decide +kernel, by decide +kernel, by decide +kernel⟩, by decide⟩
theorem cbX10_chooseRope : ax_CB iX10_chooseRope 2 := ⟨nI_X10, ax_gd (tb5 (List.mem_of_getElem? (i := 92) rfl)) rfl, ⟨by decide +kernel, by decide +kernel, by decide +kernel⟩, by decide⟩
theorem cbX10_fewestFrom : ax_CB iX10_fewestFrom 2 := ⟨nI_X10, ax_gd (tb5 (List.mem_of_getElem? (i := 82) rfl)) rfl, ⟨by decide +kernel, by decide +kernel, by decide +kernel⟩, by decide⟩
theorem cbX10_bestWith : ax_CB iX10_bestWith 2 := ⟨nI_X10, ax_gd (tb5 (List.mem_of_getElem? (i := 87) rfl)) rfl, ⟨by decide +kernel, by decide +kernel, by decide +kernel⟩, by decide⟩
theorem cbX11_init : ax_CB iX11_init 0 := ⟨nI_X11, ax_gd (tb1 (List.mem_of_getElem? (i := 26) rfl)) rfl, ⟨by decide +kernel, by decide +kernel, by decide +kernel⟩, by decide⟩
theorem cbX11_state : ax_CB iX11_state 1 := ⟨nI_X11, ax_gd (tb2 (List.mem_of_getElem? (i := 203) rfl)) rfl, ⟨by decide +kernel, by decide +kernel, by decide +kernel⟩, by decide⟩
theorem cbX11_rope : ax_CB iX11_rope 2 := ⟨nI_X11, ax_gd (tb2 (List.mem_of_getElem? (i := 207) rfl)) rfl, ⟨by decide +kernel, by decide +kernel, by decide +kernel⟩, by decide⟩
theorem cbX11_set : ax_CB iX11_set 3 := ⟨nI_X11, ax_gd (tb2 (List.mem_of_getElem? (i := 223) rfl)) rfl, ⟨by decide +kernel, by decide +kernel, by decide +kernel⟩, by decide⟩
theorem cbX11_tie : ax_CB iX11_tie 4 := ⟨nI_X11, ax_gd (tb2 (List.mem_of_getElem? (i := 227) rfl)) rfl, ⟨by decide +kernel, by decide +kernel, by decide +kernel⟩, by decide⟩
theorem cbX11_untie : ax_CB iX11_untie 2 := ⟨nI_X11, ax_gd (tb3 (List.mem_of_getElem? (i := 35) rfl)) rfl, ⟨by decide +kernel, by decide +kernel, by decide +kernel⟩, by decide⟩
theorem cbX11_pull : ax_CB iX11_pull 2 := ⟨nI_X11, ax_gd (tb3 (List.mem_of_getElem? (i := 43) rfl)) rfl, ⟨by decide +kernel, by decide +kernel, by decide +kernel⟩, by decide⟩
theorem cbX11_wet : ax_CB iX11_wet 2 := ⟨nI_X11, ax_gd (tb3 (List.mem_of_getElem? (i := 119) rfl)) rfl, ⟨by decide +kernel, by decide +kernel, by decide +kernel⟩, by decide⟩
theorem cbX11_cut : ax_CB iX11_cut 2 := ⟨nI_X11, ax_gd (tb3 (List.mem_of_getElem? (i := 128) rfl)) rfl, ⟨by decide +kernel, by decide +kernel, by decide +kernel⟩, by decide⟩
theorem cbX11_splice : ax_CB iX11_splice 2 := ⟨nI_X11, ax_gd (tb3 (List.mem_of_getElem? (i := 132) rfl)) rfl, ⟨by decide +kernel, by decide +kernel, by decide +kernel⟩, by decide⟩
theorem cbX11_sell : ax_CB iX11_sell 2 := ⟨nI_X11, ax_gd (tb3 (List.mem_of_getElem? (i := 147) rfl)) rfl, ⟨by decide +kernel, by decide +kernel, by decide +kernel⟩, by decide⟩
theorem cbX11_days : ax_CB iX11_days 1 := ⟨nI_X11, ax_gd (tb3 (List.mem_of_getElem? (i := 151) rfl)) rfl, ⟨by decide +kernel, by decide +kernel, by decide +kernel⟩, by decide⟩
theorem cbX11_feed : ax_CB iX11_feed 5 := ⟨nI_X11, ax_gd (tb3 (List.mem_of_getElem? (i := 178) rfl)) rfl, ⟨by decide +kernel, by decide +kernel, by decide +kernel⟩, by decide⟩
theorem cbX11_end : ax_CB iX11_end 1 := ⟨nI_X11, ax_gd (tb3 (List.mem_of_getElem? (i := 186) rfl)) rfl, ⟨by decide +kernel, by decide +kernel, by decide +kernel⟩, by decide⟩
theorem cbX11_text : ax_CB iX11_text 1 := ⟨nI_X11, ax_gd (tb3 (List.mem_of_getElem? (i := 190) rfl)) rfl, ⟨by decide +kernel, by decide +kernel, by decide +kernel⟩, by decide⟩
theorem cbX11_fault : ax_CB iX11_fault 1 := ⟨nI_X11, ax_gd (tb4 (List.mem_of_getElem? (i := 216) rfl)) rfl, ⟨by decide +kernel, by decide +kernel, by decide +kernel⟩, by decide⟩
theorem cbX11_drill : ax_CB iX11_drill 2 := ⟨nI_X11, ax_gd (tb4 (List.mem_of_getElem? (i := 220) rfl)) rfl, ⟨by decide +kernel, by decide +kernel, by decide +kernel⟩, by decide⟩
theorem cbX11_of : ax_CB iX11_of 2 := ⟨nI_X11, ax_gd (tb4 (List.mem_of_getElem? (i := 232) rfl)) rfl, ⟨by decide +kernel, by decide +kernel, by decide +kernel⟩, by decide⟩
theorem cbX11_at : ax_CB iX11_at 3 := ⟨nI_X11, ax_gd (tb5 (List.mem_of_getElem? (i := 2) rfl)) rfl, ⟨by decide +kernel, by decide +kernel, by decide +kernel⟩, by decide⟩
theorem cbX11_habit : ax_CB iX11_habit 4 := ⟨nI_X11, ax_gd (tb5 (List.mem_of_getElem? (i := 9) rfl)) rfl, ⟨by decide +kernel, by decide +kernel, by decide +kernel⟩, by decide⟩
theorem cbX11_book : ax_CB iX11_book 2 := ⟨nI_X11, ax_gd (tb5 (List.mem_of_getElem? (i := 14) rfl)) rfl, ⟨by decide +kernel, by decide +kernel, by decide +kernel⟩, by decide⟩
theorem cbX11_would : ax_CB iX11_would 3 := ⟨nI_X11, ax_gd (tb5 (List.mem_of_getElem? (i := 22) rfl)) rfl, ⟨by decide +kernel, by decide +kernel, by decide +kernel⟩, by decide⟩
theorem cbX11_least : ax_CB iX11_least 2 := ⟨nI_X11, ax_gd (tb5 (List.mem_of_getElem? (i := 27) rfl)) rfl, ⟨by decide +kernel, by decide +kernel, by decide +kernel⟩, by decide⟩
theorem cbX11_train : ax_CB iX11_train 4 := ⟨nI_X11, ax_gd (tb5 (List.mem_of_getElem? (i := 31) rfl)) rfl, ⟨by decide +kernel, by decide +kernel, by decide +kernel⟩, by decide⟩
theorem cbX11_told : ax_CB iX11_told 2 := ⟨nI_X11, ax_gd (tb5 (List.mem_of_getElem? (i := 40) rfl)) rfl, ⟨by decide +kernel, by decide +kernel, by decide +kernel⟩, by decide⟩
theorem cbX11_fits : ax_CB iX11_fits 3 := ⟨nI_X11, ax_gd (tb5 (List.mem_of_getElem? (i := 44) rfl)) rfl, ⟨by decide +kernel, by decide +kernel, by decide +kernel⟩, by decide⟩
theorem cbX11_weak : ax_CB iX11_weak 2 := ⟨nI_X11, ax_gd (tb5 (List.mem_of_getElem? (i := 62) rfl)) rfl, ⟨by decide +kernel, by decide +kernel, by decide +kernel⟩, by decide⟩
theorem cbX11_ladder : ax_CB iX11_ladder 1 := ⟨nI_X11, ax_gd (tb5 (List.mem_of_getElem? (i := 66) rfl)) rfl, ⟨by decide +kernel, by decide +kernel, by decide +kernel⟩, by decide⟩
theorem cbX11_order : ax_CB iX11_order 1 := ⟨nI_X11, ax_gd (tb5 (List.mem_of_getElem? (i := 70) rfl)) rfl, ⟨by decide +kernel, by decide +kernel, by decide +kernel⟩, by decide⟩
theorem cbX11_yard : ax_CB iX11_yard 1 := ⟨nI_X11, ax_gd (tb5 (List.mem_of_getElem? (i := 74) rfl)) rfl, ⟨by decide +kernel, by decide +kernel, by decide +kernel⟩, by decide⟩
theorem cbX11_moves : ax_CB iX11_moves 2 := ⟨nI_X11, ax_gd (tb5 (List.mem_of_getElem? (i := 96) rfl)) rfl, ⟨by decide +kernel, by decide +kernel, by decide +kernel⟩, by decide⟩
theorem cbX11_shape : ax_CB iX11_shape 2 := ⟨nI_X11, ax_gd (tb5 (List.mem_of_getElem? (i := 142) rfl)) rfl, ⟨by decide +kernel, by decide +kernel, by decide +kernel⟩, by decide⟩
theorem cbX11_unlike : ax_CB iX11_unlike 2 := ⟨nI_X11, ax_gd (tb5 (List.mem_of_getElem? (i := 152) rfl)) rfl, ⟨by decide +kernel, by decide +kernel, by decide +kernel⟩, by decide⟩
theorem cbX11_whose : ax_CB iX11_whose 3 := ⟨nI_X11, ax_gd (tb5 (List.mem_of_getElem? (i := 156) rfl)) rfl, ⟨by decide +kernel, by decide +kernel, by decide +kernel⟩, by decide⟩
theorem cbX11_undo : ax_CB iX11_undo 0 := ⟨nI_X11, ax_gd (tb5 (List.mem_of_getElem? (i := 169) rfl)) rfl, ⟨by decide +kernel, by decide +kernel, by decide +kernel⟩, by decide⟩
theorem cbX11_image : ax_CB iX11_image 1 := ⟨nI_X11, ax_gd (tb5 (List.mem_of_getElem? (i := 173) rfl)) rfl, ⟨by decide +kernel, by decide +kernel, by decide +kernel⟩, by decide⟩
theorem cbX11_look : ax_CB iX11_look 1 := ⟨nI_X11, ax_gd (tb5 (List.mem_of_getElem? (i := 189) rfl)) rfl, ⟨by decide +kernel, by decide +kernel, by decide +kernel⟩, by decide⟩
theorem cbX11_isIn : ax_CB iX11_isIn 2 := ⟨nI_X11, ax_gd (tb2 (List.mem_of_getElem? (i := 214) rfl)) rfl, ⟨by decide +kernel, by decide +kernel, by decide +kernel⟩, by decide⟩
theorem cbX11_keepPast : ax_CB iX11_keepPast 0 := ⟨nI_X11, ax_gd (tb3 (List.mem_of_getElem? (i := 0) rfl)) rfl, ⟨by decide +kernel, by decide +kernel, by decide +kernel⟩, by decide⟩
theorem cbX11_tieByHand : ax_CB iX11_tieByHand 4 := ⟨nI_X11, ax_gd (tb3 (List.mem_of_getElem? (i := 16) rfl)) rfl, ⟨by decide +kernel, by decide +kernel, by decide +kernel⟩, by decide⟩
theorem cbX11_pullNow : ax_CB iX11_pullNow 2 := ⟨nI_X11, ax_gd (tb3 (List.mem_of_getElem? (i := 47) rfl)) rfl, ⟨by decide +kernel, by decide +kernel, by decide +kernel⟩, by decide⟩
theorem cbX11_passDay : ax_CB iX11_passDay 0 := ⟨nI_X11, ax_gd (tb3 (List.mem_of_getElem? (i := 155) rfl)) rfl, ⟨by decide +kernel, by decide +kernel, by decide +kernel⟩, by decide⟩
theorem cbX11_doStep : ax_CB iX11_doStep 3 := ⟨nI_X11, ax_gd (tb4 (List.mem_of_getElem? (i := 228) rfl)) rfl, ⟨by decide +kernel, by decide +kernel, by decide +kernel⟩, by decide⟩
theorem cbX12_init : ax_CB iX12_init 0 := ⟨nI_X12, ax_gd (tb5 (List.mem_of_getElem? (i := 194) rfl)) rfl, ⟨by decide +kernel, by decide +kernel, by decide +kernel⟩, by decide⟩
theorem cbX12_isIn : ax_CB iX12_isIn 3 := ⟨nI_X12, ax_gd (tb6 (List.mem_of_getElem? (i := 114) rfl)) rfl, ⟨by decide +kernel, by decide +kernel, by decide +kernel⟩, by decide⟩
theorem cbX12_lesser : ax_CB iX12_lesser 2 := ⟨nI_X12, ax_gd (tb7 (List.mem_of_getElem? (i := 124) rfl)) rfl, ⟨by decide +kernel, by decide +kernel, by decide +kernel⟩, by decide⟩
theorem cbX12_greater : ax_CB iX12_greater 2 := ⟨nI_X12, ax_gd (tb7 (List.mem_of_getElem? (i := 167) rfl)) rfl, ⟨by decide +kernel, by decide +kernel, by decide +kernel⟩, by decide⟩
theorem cbX12_ofRope : ax_CB iX12_ofRope 2 := ⟨nI_X12, ax_gd (tb6 (List.mem_of_getElem? (i := 111) rfl)) rfl, ⟨by decide +kernel, by decide +kernel, by decide +kernel⟩, by decide⟩
theorem cbX12_ropes : ax_CB iX12_ropes 3 := ⟨nI_X12, ax_gd (tb6 (List.mem_of_getElem? (i := 122) rfl)) rfl, ⟨by decide +kernel, by decide +kernel, by decide +kernel⟩, by decide⟩
theorem cbX12_ofPlace : ax_CB iX12_ofPlace 3 := ⟨nI_X12, ax_gd (tb7 (List.mem_of_getElem? (i := 105) rfl)) rfl, ⟨by decide +kernel, by decide +kernel, by decide +kernel⟩, by decide⟩
theorem cbX12_places : ax_CB iX12_places 4 := ⟨nI_X12, ax_gd (tb6 (List.mem_of_getElem? (i := 126) rfl)) rfl, ⟨by decide +kernel, by decide +kernel, by decide +kernel⟩, by decide⟩
theorem cbX12_isRope : ax_CB iX12_isRope 1 := ⟨nI_X12, ax_gd (tb7 (List.mem_of_getElem? (i := 97) rfl)) rfl, ⟨by decide +kernel, by decide +kernel, by decide +kernel⟩, by decide⟩
theorem cbX12_isPlace : ax_CB iX12_isPlace 2 := ⟨nI_X12, ax_gd (tb7 (List.mem_of_getElem? (i := 93) rfl)) rfl, ⟨by decide +kernel, by decide +kernel, by decide +kernel⟩, by decide⟩
theorem cbX12_isKnot : ax_CB iX12_isKnot 1 := ⟨nI_X12, ax_gd (tb6 (List.mem_of_getElem? (i := 137) rfl)) rfl, ⟨by decide +kernel, by decide +kernel, by decide +kernel⟩, by decide⟩
theorem cbX12_isTied : ax_CB iX12_isTied 2 := ⟨nI_X12, ax_gd (tb7 (List.mem_of_getElem? (i := 101) rfl)) rfl, ⟨by decide +kernel, by decide +kernel, by decide +kernel⟩, by decide⟩
theorem cbX12_habitOf : ax_CB iX12_habitOf 3 := ⟨nI_X12, ax_gd (tb7 (List.mem_of_getElem? (i := 121) rfl)) rfl, ⟨by decide +kernel, by decide +kernel, by decide +kernel⟩, by decide⟩
theorem cbX12_forgets : ax_CB iX12_forgets 0 := ⟨nI_X12, ax_gd (tb6 (List.mem_of_getElem? (i := 99) rfl)) rfl, ⟨by decide +kernel, by decide +kernel, by decide +kernel⟩, by decide⟩
theorem cbX12_state : ax_CB iX12_state 1 := ⟨nI_X12, ax_gd (tb6 (List.mem_of_getElem? (i := 95) rfl)) rfl, ⟨by decide +kernel, by decide +kernel, by decide +kernel⟩, by decide⟩
theorem cbX12_draw : ax_CB iX12_draw 1 := ⟨nI_X12, ax_gd (tb8 (List.mem_of_getElem? (i := 22) rfl)) rfl, ⟨by decide +kernel, by decide +kernel, by decide +kernel⟩, by decide⟩
theorem cbX12_freeRope : ax_CB iX12_freeRope 0 := ⟨nI_X12, ax_gd (tb6 (List.mem_of_getElem? (i := 107) rfl)) rfl, ⟨by decide +kernel, by decide +kernel, by decide +kernel⟩, by decide⟩
theorem cbX12_begins : ax_CB iX12_begins 5 := ⟨nI_X12, ax_gd (tb6 (List.mem_of_getElem? (i := 118) rfl)) rfl, ⟨by decide +kernel, by decide +kernel, by decide +kernel⟩, by decide⟩
theorem cbX12_habits : ax_CB iX12_habits 5 := ⟨nI_X12, ax_gd (tb6 (List.mem_of_getElem? (i := 130) rfl)) rfl, ⟨by decide +kernel, by decide +kernel, by decide +kernel⟩, by decide⟩
theorem cbX12_rope : ax_CB iX12_rope 2 := ⟨nI_X12, ax_gd (tb6 (List.mem_of_getElem? (i := 103) rfl)) rfl, ⟨by decide +kernel, by decide +kernel, by decide +kernel⟩, by decide⟩
theorem cbX12_set : ax_CB iX12_set 3 := ⟨nI_X12, ax_gd (tb6 (List.mem_of_getElem? (i := 134) rfl)) rfl, ⟨by decide +kernel, by decide +kernel, by decide +kernel⟩, by decide⟩
theorem cbX12_feed : ax_CB iX12_feed 5 := ⟨nI_X12, ax_gd (tb6 (List.mem_of_getElem? (i := 141) rfl)) rfl, ⟨by decide +kernel, by decide +kernel, by decide +kernel⟩, by decide⟩
theorem cbX12_end : ax_CB iX12_end 1 := ⟨nI_X12, ax_gd (tb6 (List.mem_of_getElem? (i := 145) rfl)) rfl, ⟨by decide +kernel, by decide +kernel, by decide +kernel⟩, by decide⟩
theorem cbX12_see : ax_CB iX12_see 1 := ⟨nI_X12, ax_gd (tb6 (List.mem_of_getElem? (i := 169) rfl)) rfl, ⟨by decide +kernel, by decide +kernel, by decide +kernel⟩, by decide⟩
theorem cbX12_isLetter : ax_CB iX12_isLetter 1 := ⟨nI_X12, ax_gd (tb6 (List.mem_of_getElem? (i := 172) rfl)) rfl, ⟨by decide +kernel, by decide +kernel, by decide +kernel⟩, by decide⟩
theorem cbX12_isDigit : ax_CB iX12_isDigit 1 := ⟨nI_X12, ax_gd (tb6 (List.mem_of_getElem? (i := 226) rfl)) rfl, ⟨by decide +kernel, by decide +kernel, by decide +kernel⟩, by decide⟩
theorem cbX12_is : ax_CB iX12_is 1 := ⟨nI_X12, ax_gd (tb6 (List.mem_of_getElem? (i := 185) rfl)) rfl, ⟨by decide +kernel, by decide +kernel, by decide +kernel⟩, by decide⟩
theorem cbX12_bothName : ax_CB iX12_bothName 0 := ⟨nI_X12, ax_gd (tb6 (List.mem_of_getElem? (i := 207) rfl)) rfl, ⟨by decide +kernel, by decide +kernel, by decide +kernel⟩, by decide⟩
theorem cbX12_tieName : ax_CB iX12_tieName 0 := ⟨nI_X12, ax_gd (tb6 (List.mem_of_getElem? (i := 201) rfl)) rfl, ⟨by decide +kernel, by decide +kernel, by decide +kernel⟩, by decide⟩
theorem cbX12_holdName : ax_CB iX12_holdName 0 := ⟨nI_X12, ax_gd (tb6 (List.mem_of_getElem? (i := 216) rfl)) rfl, ⟨by decide +kernel, by decide +kernel, by decide +kernel⟩, by decide⟩
theorem cbX12_drillWord : ax_CB iX12_drillWord 0 := ⟨nI_X12, ax_gd (tb6 (List.mem_of_getElem? (i := 180) rfl)) rfl, ⟨by decide +kernel, by decide +kernel, by decide +kernel⟩, by decide⟩
theorem cbX12_word : ax_CB iX12_word 0 := ⟨nI_X12, ax_gd (tb6 (List.mem_of_getElem? (i := 176) rfl)) rfl, ⟨by decide +kernel, by decide +kernel, by decide +kernel⟩, by decide⟩
theorem cbX12_next0 : ax_CB iX12_next0 0 := ⟨nI_X12, ax_gd (tb6 (List.mem_of_getElem? (i := 165) rfl)) rfl, ⟨by decide +kernel, by decide +kernel, by decide +kernel⟩, by decide⟩
theorem cbX12_bad : ax_CB iX12_bad 1 := ⟨nI_X12, ax_gd (tb7 (List.mem_of_getElem? (i := 2) rfl)) rfl, ⟨by decide +kernel, by decide +kernel, by decide +kernel⟩, by decide⟩
theorem cbX12_need : ax_CB iX12_need 1 := ⟨nI_X12, ax_gd (tb7 (List.mem_of_getElem? (i := 10) rfl)) rfl, ⟨by decide +kernel, by decide +kernel, by decide +kernel⟩, by decide⟩
theorem cbX12_lay : ax_CB iX12_lay 2 := ⟨nI_X12, ax_gd (tb7 (List.mem_of_getElem? (i := 45) rfl)) rfl, ⟨by decide +kernel, by decide +kernel, by decide +kernel⟩, by decide⟩
theorem cbX12_opens : ax_CB iX12_opens 0 := ⟨nI_X12, ax_gd (tb7 (List.mem_of_getElem? (i := 61) rfl)) rfl, ⟨by decide +kernel, by decide +kernel, by decide +kernel⟩, by decide⟩
theorem cbX12_sumUp : ax_CB iX12_sumUp 0 := ⟨nI_X12, ax_gd (tb7 (List.mem_of_getElem? (i := 33) rfl)) rfl, ⟨by decide +kernel, by decide +kernel, by decide +kernel⟩, by decide⟩
theorem cbX12_product : ax_CB iX12_product 0 := ⟨nI_X12, ax_gd (tb7 (List.mem_of_getElem? (i := 37) rfl)) rfl, ⟨by decide +kernel, by decide +kernel, by decide +kernel⟩, by decide⟩
theorem cbX12_unit : ax_CB iX12_unit 0 := ⟨nI_X12, ax_gd (tb7 (List.mem_of_getElem? (i := 41) rfl)) rfl, ⟨by decide +kernel, by decide +kernel, by decide +kernel⟩, by decide⟩
theorem cbX12_any : ax_CB iX12_any 0 := ⟨nI_X12, ax_gd (tb7 (List.mem_of_getElem? (i := 49) rfl)) rfl, ⟨by decide +kernel, by decide +kernel, by decide +kernel⟩, by decide⟩
theorem cbX12_every : ax_CB iX12_every 0 := ⟨nI_X12, ax_gd (tb7 (List.mem_of_getElem? (i := 53) rfl)) rfl, ⟨by decide +kernel, by decide +kernel, by decide +kernel⟩, by decide⟩
theorem cbX12_oneTest : ax_CB iX12_oneTest 0 := ⟨nI_X12, ax_gd (tb7 (List.mem_of_getElem? (i := 57) rfl)) rfl, ⟨by decide +kernel, by decide +kernel, by decide +kernel⟩, by decide⟩
theorem cbX12_aLine : ax_CB iX12_aLine 0 := ⟨nI_X12, ax_gd (tb7 (List.mem_of_getElem? (i := 29) rfl)) rfl, ⟨by decide +kernel, by decide +kernel, by decide +kernel⟩, by decide⟩
theorem cbX12_readsLaw : ax_CB iX12_readsLaw 0 := ⟨nI_X12, ax_gd (tb7 (List.mem_of_getElem? (i := 25) rfl)) rfl, ⟨by decide +kernel, by decide +kernel, by decide +kernel⟩, by decide⟩
theorem cbX12_number : ax_CB iX12_number 2 := ⟨nI_X12, ax_gd (tb7 (List.mem_of_getElem? (i := 6) rfl)) rfl, ⟨by decide +kernel, by decide +kernel, by decide +kernel⟩, by decide⟩
theorem cbX12_tells : ax_CB iX12_tells 3 := ⟨nI_X12, ax_gd (tb7 (List.mem_of_getElem? (i := 14) rfl)) rfl, ⟨by decide +kernel, by decide +kernel, by decide +kernel⟩, by decide⟩
theorem cbX12_greatestOf : ax_CB iX12_greatestOf 1 := ⟨nI_X12, ax_gd (tb7 (List.mem_of_getElem? (i := 21) rfl)) rfl, ⟨by decide +kernel, by decide +kernel, by decide +kernel⟩, by decide⟩
theorem cbX12_aStep : ax_CB iX12_aStep 0 := ⟨nI_X12, ax_gd (tb7 (List.mem_of_getElem? (i := 18) rfl)) rfl, ⟨by decide +kernel, by decide +kernel, by decide +kernel⟩, by decide⟩
theorem cbX12_someAgain : ax_CB iX12_someAgain 1 := ⟨nI_X12, ax_gd (tb6 (List.mem_of_getElem? (i := 238) rfl)) rfl, ⟨by decide +kernel, by decide +kernel, by decide +kernel⟩, by decide⟩
theorem cbX12_someSteps : ax_CB iX12_someSteps 1 := ⟨nI_X12, ax_gd (tb6 (List.mem_of_getElem? (i := 234) rfl)) rfl, ⟨by decide +kernel, by decide +kernel, by decide +kernel⟩, by decide⟩
theorem cbX12_readsDrill : ax_CB iX12_readsDrill 0 := ⟨nI_X12, ax_gd (tb6 (List.mem_of_getElem? (i := 230) rfl)) rfl, ⟨by decide +kernel, by decide +kernel, by decide +kernel⟩, by decide⟩
theorem cbX12_wrongHere : ax_CB iX12_wrongHere 2 := ⟨nI_X12, ax_gd (tb6 (List.mem_of_getElem? (i := 161) rfl)) rfl, ⟨by decide +kernel, by decide +kernel, by decide +kernel⟩, by decide⟩
theorem cbX12_readsShape : ax_CB iX12_readsShape 0 := ⟨nI_X12, ax_gd (tb6 (List.mem_of_getElem? (i := 157) rfl)) rfl, ⟨by decide +kernel, by decide +kernel, by decide +kernel⟩, by decide⟩
theorem cbX12_putsLaw : ax_CB iX12_putsLaw 1 := ⟨nI_X12, ax_gd (tb7 (List.mem_of_getElem? (i := 65) rfl)) rfl, ⟨by decide +kernel, by decide +kernel, by decide +kernel⟩, by decide⟩
theorem cbX12_putsDrill : ax_CB iX12_putsDrill 0 := ⟨nI_X12, ax_gd (tb7 (List.mem_of_getElem? (i := 69) rfl)) rfl, ⟨by decide +kernel, by decide +kernel, by decide +kernel⟩, by decide⟩
theorem cbX12_putsShape : ax_CB iX12_putsShape 1 := ⟨nI_X12, ax_gd (tb7 (List.mem_of_getElem? (i := 73) rfl)) rfl, ⟨by decide +kernel, by decide +kernel, by decide +kernel⟩, by decide⟩
theorem cbX12_reads : ax_CB iX12_reads 1 := ⟨nI_X12, ax_gd (tb6 (List.mem_of_getElem? (i := 153) rfl)) rfl, ⟨by decide +kernel, by decide +kernel, by decide +kernel⟩, by decide⟩
theorem cbX12_text : ax_CB iX12_text 1 := ⟨nI_X12, ax_gd (tb6 (List.mem_of_getElem? (i := 149) rfl)) rfl, ⟨by decide +kernel, by decide +kernel, by decide +kernel⟩, by decide⟩
theorem cbX12_fault : ax_CB iX12_fault 1 := ⟨nI_X12, ax_gd (tb7 (List.mem_of_getElem? (i := 77) rfl)) rfl, ⟨by decide +kernel, by decide +kernel, by decide +kernel⟩, by decide⟩
theorem cbX12_both : ax_CB iX12_both 3 := ⟨nI_X12, ax_gd (tb7 (List.mem_of_getElem? (i := 230) rfl)) rfl, ⟨by decide +kernel, by decide +kernel, by decide +kernel⟩, by decide⟩
theorem cbX12_comesTo : ax_CB iX12_comesTo 3 := ⟨nI_X12, ax_gd (tb7 (List.mem_of_getElem? (i := 227) rfl)) rfl, ⟨by decide +kernel, by decide +kernel, by decide +kernel⟩, by decide⟩
theorem cbX12_lawSays : ax_CB iX12_lawSays 3 := ⟨nI_X12, ax_gd (tb7 (List.mem_of_getElem? (i := 223) rfl)) rfl, ⟨by decide +kernel, by decide +kernel, by decide +kernel⟩, by decide⟩
theorem cbX12_tiedMany : ax_CB iX12_tiedMany 1 := ⟨nI_X12, ax_gd (tb7 (List.mem_of_getElem? (i := 219) rfl)) rfl, ⟨by decide +kernel, by decide +kernel, by decide +kernel⟩, by decide⟩
theorem cbX12_beside : ax_CB iX12_beside 2 := ⟨nI_X12, ax_gd (tb7 (List.mem_of_getElem? (i := 215) rfl)) rfl, ⟨by decide +kernel, by decide +kernel, by decide +kernel⟩, by decide⟩
theorem cbX12_habitFacts : ax_CB iX12_habitFacts 5 := ⟨nI_X12, ax_gd (tb7 (List.mem_of_getElem? (i := 211) rfl)) rfl, ⟨by decide +kernel, by decide +kernel, by decide +kernel⟩, by decide⟩
theorem cbX12_needWith : ax_CB iX12_needWith 5 := ⟨nI_X12, ax_gd (tb7 (List.mem_of_getElem? (i := 207) rfl)) rfl, ⟨by decide +kernel, by decide +kernel, by decide +kernel⟩, by decide⟩
theorem cbX12_needOf : ax_CB iX12_needOf 3 := ⟨nI_X12, ax_gd (tb7 (List.mem_of_getElem? (i := 203) rfl)) rfl, ⟨by decide +kernel, by decide +kernel, by decide +kernel⟩, by decide⟩
theorem cbX12_lossOf : ax_CB iX12_lossOf 3 := ⟨nI_X12, ax_gd (tb8 (List.mem_of_getElem? (i := 18) rfl)) rfl, ⟨by decide +kernel, by decide +kernel, by decide +kernel⟩, by decide⟩
theorem cbX12_habitsAt : ax_CB iX12_habitsAt 2 := ⟨nI_X12, ax_gd (tb8 (List.mem_of_getElem? (i := 2) rfl)) rfl, ⟨by decide +kernel, by decide +kernel, by decide +kernel⟩, by decide⟩
theorem cbX12_strength : ax_CB iX12_strength 2 := ⟨nI_X12, ax_gd (tb7 (List.mem_of_getElem? (i := 238) rfl)) rfl, ⟨by decide +kernel, by decide +kernel, by decide +kernel⟩, by decide⟩
theorem cbX12_callOf : ax_CB iX12_callOf 2 := ⟨nI_X12, ax_gd (tb7 (List.mem_of_getElem? (i := 144) rfl)) rfl, ⟨by decide +kernel, by decide +kernel, by decide +kernel⟩, by decide⟩
theorem cbX12_weakest : ax_CB iX12_weakest 1 := ⟨nI_X12, ax_gd (tb7 (List.mem_of_getElem? (i := 234) rfl)) rfl, ⟨by decide +kernel, by decide +kernel, by decide +kernel⟩, by decide⟩
theorem cbX12_notes : ax_CB iX12_notes 5 := ⟨nI_X12, ax_gd (tb7 (List.mem_of_getElem? (i := 128) rfl)) rfl, ⟨by decide +kernel, by decide +kernel, by decide +kernel⟩, by decide⟩
theorem cbX12_keeps : ax_CB iX12_keeps 0 := ⟨nI_X12, ax_gd (tb7 (List.mem_of_getElem? (i := 109) rfl)) rfl, ⟨by decide +kernel, by decide +kernel, by decide +kernel⟩, by decide⟩
theorem cbX12_undo : ax_CB iX12_undo 0 := ⟨nI_X12, ax_gd (tb7 (List.mem_of_getElem? (i := 81) rfl)) rfl, ⟨by decide +kernel, by decide +kernel, by decide +kernel⟩, by decide⟩
theorem cbX12_more : ax_CB iX12_more 4 := ⟨nI_X12, ax_gd (tb7 (List.mem_of_getElem? (i := 117) rfl)) rfl, ⟨by decide +kernel, by decide +kernel, by decide +kernel⟩, by decide⟩
theorem cbX12_canTie : ax_CB iX12_canTie 3 := ⟨nI_X12, ax_gd (tb7 (List.mem_of_getElem? (i := 89) rfl)) rfl, ⟨by decide +kernel, by decide +kernel, by decide +kernel⟩, by decide⟩
theorem cbX12_ties : ax_CB iX12_ties 4 := ⟨nI_X12, ax_gd (tb7 (List.mem_of_getElem? (i := 113) rfl)) rfl, ⟨by decide +kernel, by decide +kernel, by decide +kernel⟩, by decide⟩
theorem cbX12_tie : ax_CB iX12_tie 4 := ⟨nI_X12, ax_gd (tb7 (List.mem_of_getElem? (i := 85) rfl)) rfl, ⟨by decide +kernel, by decide +kernel, by decide +kernel⟩, by decide⟩
theorem cbX12_untie : ax_CB iX12_untie 2 := ⟨nI_X12, ax_gd (tb7 (List.mem_of_getElem? (i := 132) rfl)) rfl, ⟨by decide +kernel, by decide +kernel, by decide +kernel⟩, by decide⟩
theorem cbX12_wets : ax_CB iX12_wets 2 := ⟨nI_X12, ax_gd (tb7 (List.mem_of_getElem? (i := 140) rfl)) rfl, ⟨by decide +kernel, by decide +kernel, by decide +kernel⟩, by decide⟩
theorem cbX12_wet : ax_CB iX12_wet 2 := ⟨nI_X12, ax_gd (tb7 (List.mem_of_getElem? (i := 136) rfl)) rfl, ⟨by decide +kernel, by decide +kernel, by decide +kernel⟩, by decide⟩
theorem cbX12_copies : ax_CB iX12_copies 4 := ⟨nI_X12, ax_gd (tb7 (List.mem_of_getElem? (i := 156) rfl)) rfl, ⟨by decide +kernel, by decide +kernel, by decide +kernel⟩, by decide⟩
theorem cbX12_halves : ax_CB iX12_halves 2 := ⟨nI_X12, ax_gd (tb7 (List.mem_of_getElem? (i := 164) rfl)) rfl, ⟨by decide +kernel, by decide +kernel, by decide +kernel⟩, by decide⟩
theorem cbX12_clears : ax_CB iX12_clears 2 := ⟨nI_X12, ax_gd (tb7 (List.mem_of_getElem? (i := 160) rfl)) rfl, ⟨by decide +kernel, by decide +kernel, by decide +kernel⟩, by decide⟩
theorem cbX12_parts : ax_CB iX12_parts 2 := ⟨nI_X12, ax_gd (tb7 (List.mem_of_getElem? (i := 152) rfl)) rfl, ⟨by decide +kernel, by decide +kernel, by decide +kernel⟩, by decide⟩
theorem cbX12_cut : ax_CB iX12_cut 2 := ⟨nI_X12, ax_gd (tb7 (List.mem_of_getElem? (i := 148) rfl)) rfl, ⟨by decide +kernel, by decide +kernel, by decide +kernel⟩, by decide⟩
theorem cbX12_sinceBoth : ax_CB iX12_sinceBoth 5 := ⟨nI_X12, ax_gd (tb7 (List.mem_of_getElem? (i := 175) rfl)) rfl, ⟨by decide +kernel, by decide +kernel, by decide +kernel⟩, by decide⟩
theorem cbX12_splice : ax_CB iX12_splice 2 := ⟨nI_X12, ax_gd (tb7 (List.mem_of_getElem? (i := 171) rfl)) rfl, ⟨by decide +kernel, by decide +kernel, by decide +kernel⟩, by decide⟩
theorem cbX12_sell : ax_CB iX12_sell 2 := ⟨nI_X12, ax_gd (tb7 (List.mem_of_getElem? (i := 179) rfl)) rfl, ⟨by decide +kernel, by decide +kernel, by decide +kernel⟩, by decide⟩
theorem cbX12_isAhead : ax_CB iX12_isAhead 3 := ⟨nI_X12, ax_gd (tb7 (List.mem_of_getElem? (i := 199) rfl)) rfl, ⟨by decide +kernel, by decide +kernel, by decide +kernel⟩, by decide⟩
theorem cbX12_laysRow : ax_CB iX12_laysRow 1 := ⟨nI_X12, ax_gd (tb7 (List.mem_of_getElem? (i := 195) rfl)) rfl, ⟨by decide +kernel, by decide +kernel, by decide +kernel⟩, by decide⟩
theorem cbX12_stretches : ax_CB iX12_stretches 2 := ⟨nI_X12, ax_gd (tb7 (List.mem_of_getElem? (i := 191) rfl)) rfl, ⟨by decide +kernel, by decide +kernel, by decide +kernel⟩, by decide⟩
theorem cbX12_pulls : ax_CB iX12_pulls 2 := ⟨nI_X12, ax_gd (tb7 (List.mem_of_getElem? (i := 187) rfl)) rfl, ⟨by decide +kernel, by decide +kernel, by decide +kernel⟩, by decide⟩
theorem cbX12_pull : ax_CB iX12_pull 2 := ⟨nI_X12, ax_gd (tb7 (List.mem_of_getElem? (i := 183) rfl)) rfl, ⟨by decide +kernel, by decide +kernel, by decide +kernel⟩, by decide⟩
theorem cbX12_forgetsAll : ax_CB iX12_forgetsAll 1 := ⟨nI_X12, ax_gd (tb8 (List.mem_of_getElem? (i := 14) rfl)) rfl, ⟨by decide +kernel, by decide +kernel, by decide +kernel⟩, by decide⟩
theorem cbX12_ropeSet : ax_CB iX12_ropeSet 0 := ⟨nI_X12, ax_gd (tb8 (List.mem_of_getElem? (i := 28) rfl)) rfl, ⟨by decide +kernel, by decide +kernel, by decide +kernel⟩, by decide⟩
theorem cbX12_aDay : ax_CB iX12_aDay 0 := ⟨nI_X12, ax_gd (tb8 (List.mem_of_getElem? (i := 10) rfl)) rfl, ⟨by decide +kernel, by decide +kernel, by decide +kernel⟩, by decide⟩
theorem cbX12_days : ax_CB iX12_days 1 := ⟨nI_X12, ax_gd (tb8 (List.mem_of_getElem? (i := 6) rfl)) rfl, ⟨by decide +kernel, by decide +kernel, by decide +kernel⟩, by decide⟩
theorem cbX12_isDone : ax_CB iX12_isDone 5 := ⟨nI_X12, ax_gd (tb8 (List.mem_of_getElem? (i := 36) rfl)) rfl, ⟨by decide +kernel, by decide +kernel, by decide +kernel⟩, by decide⟩
theorem cbX12_drill : ax_CB iX12_drill 2 := ⟨nI_X12, ax_gd (tb8 (List.mem_of_getElem? (i := 32) rfl)) rfl, ⟨by decide +kernel, by decide +kernel, by decide +kernel⟩, by decide⟩
theorem cbX12_of : ax_CB iX12_of 2 := ⟨nI_X12, ax_gd (tb8 (List.mem_of_getElem? (i := 40) rfl)) rfl, ⟨by decide +kernel, by decide +kernel, by decide +kernel⟩, by decide⟩
theorem cbX12_allHabits : ax_CB iX12_allHabits 1 := ⟨nI_X12, ax_gd (tb8 (List.mem_of_getElem? (i := 44) rfl)) rfl, ⟨by decide +kernel, by decide +kernel, by decide +kernel⟩, by decide⟩
theorem cbX12_at : ax_CB iX12_at 3 := ⟨nI_X12, ax_gd (tb8 (List.mem_of_getElem? (i := 48) rfl)) rfl, ⟨by decide +kernel, by decide +kernel, by decide +kernel⟩, by decide⟩
theorem cbX12_habit : ax_CB iX12_habit 4 := ⟨nI_X12, ax_gd (tb8 (List.mem_of_getElem? (i := 52) rfl)) rfl, ⟨by decide +kernel, by decide +kernel, by decide +kernel⟩, by decide⟩
theorem cbX12_book : ax_CB iX12_book 2 := ⟨nI_X12, ax_gd (tb8 (List.mem_of_getElem? (i := 56) rfl)) rfl, ⟨by decide +kernel, by decide +kernel, by decide +kernel⟩, by decide⟩
theorem cbX12_laysAside : ax_CB iX12_laysAside 0 := ⟨nI_X12, ax_gd (tb8 (List.mem_of_getElem? (i := 68) rfl)) rfl, ⟨by decide +kernel, by decide +kernel, by decide +kernel⟩, by decide⟩
theorem cbX12_putsBack : ax_CB iX12_putsBack 0 := ⟨nI_X12, ax_gd (tb8 (List.mem_of_getElem? (i := 72) rfl)) rfl, ⟨by decide +kernel, by decide +kernel, by decide +kernel⟩, by decide⟩
theorem cbX12_wouldBy : ax_CB iX12_wouldBy 2 := ⟨nI_X12, ax_gd (tb8 (List.mem_of_getElem? (i := 64) rfl)) rfl, ⟨by decide +kernel, by decide +kernel, by decide +kernel⟩, by decide⟩
theorem cbX12_would : ax_CB iX12_would 3 := ⟨nI_X12, ax_gd (tb8 (List.mem_of_getElem? (i := 60) rfl)) rfl, ⟨by decide +kernel, by decide +kernel, by decide +kernel⟩, by decide⟩
theorem cbX12_least : ax_CB iX12_least 2 := ⟨nI_X12, ax_gd (tb8 (List.mem_of_getElem? (i := 76) rfl)) rfl, ⟨by decide +kernel, by decide +kernel, by decide +kernel⟩, by decide⟩
theorem cbX12_train : ax_CB iX12_train 4 := ⟨nI_X12, ax_gd (tb8 (List.mem_of_getElem? (i := 80) rfl)) rfl, ⟨by decide +kernel, by decide +kernel, by decide +kernel⟩, by decide⟩
theorem cbX12_told : ax_CB iX12_told 2 := ⟨nI_X12, ax_gd (tb8 (List.mem_of_getElem? (i := 84) rfl)) rfl, ⟨by decide +kernel, by decide +kernel, by decide +kernel⟩, by decide⟩
theorem cbX12_fitsWith : ax_CB iX12_fitsWith 2 := ⟨nI_X12, ax_gd (tb8 (List.mem_of_getElem? (i := 92) rfl)) rfl, ⟨by decide +kernel, by decide +kernel, by decide +kernel⟩, by decide⟩
theorem cbX12_nextForce : ax_CB iX12_nextForce 0 := ⟨nI_X12, ax_gd (tb8 (List.mem_of_getElem? (i := 96) rfl)) rfl, ⟨by decide +kernel, by decide +kernel, by decide +kernel⟩, by decide⟩
theorem cbX12_fits : ax_CB iX12_fits 3 := ⟨nI_X12, ax_gd (tb8 (List.mem_of_getElem? (i := 88) rfl)) rfl, ⟨by decide +kernel, by decide +kernel, by decide +kernel⟩, by decide⟩
theorem cbX12_weak : ax_CB iX12_weak 2 := ⟨nI_X12, ax_gd (tb8 (List.mem_of_getElem? (i := 100) rfl)) rfl, ⟨by decide +kernel, by decide +kernel, by decide +kernel⟩, by decide⟩
theorem cbX12_ladder : ax_CB iX12_ladder 1 := ⟨nI_X12, ax_gd (tb8 (List.mem_of_getElem? (i := 104) rfl)) rfl, ⟨by decide +kernel, by decide +kernel, by decide +kernel⟩, by decide⟩
theorem cbX12_order : ax_CB iX12_order 1 := ⟨nI_X12, ax_gd (tb8 (List.mem_of_getElem? (i := 109) rfl)) rfl, ⟨by decide +kernel, by decide +kernel, by decide +kernel⟩, by decide⟩
theorem cbX12_count : ax_CB iX12_count 1 := ⟨nI_X12, ax_gd (tb8 (List.mem_of_getElem? (i := 120) rfl)) rfl, ⟨by decide +kernel, by decide +kernel, by decide +kernel⟩, by decide⟩
theorem cbX12_yards : ax_CB iX12_yards 2 := ⟨nI_X12, ax_gd (tb8 (List.mem_of_getElem? (i := 117) rfl)) rfl, ⟨by decide +kernel, by decide +kernel, by decide +kernel⟩, by decide⟩
theorem cbX12_yard : ax_CB iX12_yard 1 := ⟨nI_X12, ax_gd (tb8 (List.mem_of_getElem? (i := 113) rfl)) rfl, ⟨by decide +kernel, by decide +kernel, by decide +kernel⟩, by decide⟩
theorem cbX12_coded : ax_CB iX12_coded 0 := ⟨nI_X12, ax_gd (tb8 (List.mem_of_getElem? (i := 135) rfl)) rfl, ⟨by decide +kernel, by decide +kernel, by decide +kernel⟩, by decide⟩
theorem cbX12_decodes : ax_CB iX12_decodes 1 := ⟨nI_X12, ax_gd (tb8 (List.mem_of_getElem? (i := 151) rfl)) rfl, ⟨by decide +kernel, by decide +kernel, by decide +kernel⟩, by decide⟩
theorem cbX12_reaches : ax_CB iX12_reaches 1 := ⟨nI_X12, ax_gd (tb8 (List.mem_of_getElem? (i := 139) rfl)) rfl, ⟨by decide +kernel, by decide +kernel, by decide +kernel⟩, by decide⟩
theorem cbX12_goesWith : ax_CB iX12_goesWith 2 := ⟨nI_X12, ax_gd (tb8 (List.mem_of_getElem? (i := 154) rfl)) rfl, ⟨by decide +kernel, by decide +kernel, by decide +kernel⟩, by decide⟩
theorem cbX12_goes : ax_CB iX12_goes 3 := ⟨nI_X12, ax_gd (tb8 (List.mem_of_getElem? (i := 147) rfl)) rfl, ⟨by decide +kernel, by decide +kernel, by decide +kernel⟩, by decide⟩
theorem cbX12_comes : ax_CB iX12_comes 5 := ⟨nI_X12, ax_gd (tb8 (List.mem_of_getElem? (i := 162) rfl)) rfl, ⟨by decide +kernel, by decide +kernel, by decide +kernel⟩, by decide⟩
theorem cbX12_changes : ax_CB iX12_changes 3 := ⟨nI_X12, ax_gd (tb8 (List.mem_of_getElem? (i := 158) rfl)) rfl, ⟨by decide +kernel, by decide +kernel, by decide +kernel⟩, by decide⟩
theorem cbX12_movesOn : ax_CB iX12_movesOn 2 := ⟨nI_X12, ax_gd (tb8 (List.mem_of_getElem? (i := 143) rfl)) rfl, ⟨by decide +kernel, by decide +kernel, by decide +kernel⟩, by decide⟩
theorem cbX12_isShape : ax_CB iX12_isShape 1 := ⟨nI_X12, ax_gd (tb8 (List.mem_of_getElem? (i := 127) rfl)) rfl, ⟨by decide +kernel, by decide +kernel, by decide +kernel⟩, by decide⟩
theorem cbX12_shapeCode : ax_CB iX12_shapeCode 1 := ⟨nI_X12, ax_gd (tb8 (List.mem_of_getElem? (i := 131) rfl)) rfl, ⟨by decide +kernel, by decide +kernel, by decide +kernel⟩, by decide⟩
theorem cbX12_moves : ax_CB iX12_moves 2 := ⟨nI_X12, ax_gd (tb8 (List.mem_of_getElem? (i := 124) rfl)) rfl, ⟨by decide +kernel, by decide +kernel, by decide +kernel⟩, by decide⟩
theorem cbX12_markOf : ax_CB iX12_markOf 2 := ⟨nI_X12, ax_gd (tb8 (List.mem_of_getElem? (i := 170) rfl)) rfl, ⟨by decide +kernel, by decide +kernel, by decide +kernel⟩, by decide⟩
theorem cbX12_shape : ax_CB iX12_shape 2 := ⟨nI_X12, ax_gd (tb8 (List.mem_of_getElem? (i := 166) rfl)) rfl, ⟨by decide +kernel, by decide +kernel, by decide +kernel⟩, by decide⟩
theorem cbX12_unlike : ax_CB iX12_unlike 2 := ⟨nI_X12, ax_gd (tb8 (List.mem_of_getElem? (i := 174) rfl)) rfl, ⟨by decide +kernel, by decide +kernel, by decide +kernel⟩, by decide⟩
theorem cbX12_whose : ax_CB iX12_whose 3 := ⟨nI_X12, ax_gd (tb8 (List.mem_of_getElem? (i := 178) rfl)) rfl, ⟨by decide +kernel, by decide +kernel, by decide +kernel⟩, by decide⟩
theorem cbX12_image : ax_CB iX12_image 1 := ⟨nI_X12, ax_gd (tb8 (List.mem_of_getElem? (i := 182) rfl)) rfl, ⟨by decide +kernel, by decide +kernel, by decide +kernel⟩, by decide⟩
theorem cbX12_look : ax_CB iX12_look 1 := ⟨nI_X12, ax_gd (tb8 (List.mem_of_getElem? (i := 186) rfl)) rfl, ⟨by decide +kernel, by decide +kernel, by decide +kernel⟩, by decide⟩
theorem cbJ7_fill_53178 : ax_CB iJ7_fill_53178 2 := ⟨nI_J7, ax_gd (tb1 (List.mem_of_getElem? (i := 40) rfl)) rfl, ⟨by decide +kernel, by decide +kernel, by decide +kernel⟩, by decide⟩
theorem nlL_7 : ax_NL "RopeMindLaw" 7 11 17 := ⟨RX11, TX11, rfl, by decide, ggX11, tyX11_ok, ax_gd (by decide +kernel) rfl, ax_gd (by decide +kernel) rfl, nI_X11, by decide +kernel⟩
theorem mlL_9 : ax_MI "RopeMindLaw" 9 iX11_init 0 ∨ ∃ host, ax_MIN "RopeMindLaw" 9 iX11_init host 0 := Or.inl ⟨cbX11_init, ax_gd (by decide +kernel) rfl, ax_gd (by decide +kernel) rfl, rfl, rfl⟩
theorem nlL_10 : ax_NL "RopeMindLaw" 10 12 45 := ⟨RX12, TX12, rfl, by decide, ggX12, tyX12_ok, ax_gd (by decide +kernel) rfl, ax_gd (by decide +kernel) rfl, nI_X12, by decide +kernel⟩
theorem mlL_12 : ax_MI "RopeMindLaw" 12 iX12_init 0 ∨ ∃ host, ax_MIN "RopeMindLaw" 12 iX12_init host 0 := Or.inl ⟨cbX12_init, ax_gd (by decide +kernel) rfl, ax_gd (by decide +kernel) rfl, rfl, rfl⟩
theorem imX11_state : Cond.instanceMethod yX11_state ∈ ax_good := ax_gd (tb2 (List.mem_of_getElem? (i := 201) rfl)) rfl
theorem seX11_state : Cond.selects RX11 yX11_state yX11_state ∈ ax_good := ax_gd (tb2 (List.mem_of_getElem? (i := 202) rfl)) rfl
theorem mlL_13 : ax_MV "RopeMindLaw" 13 iX11_state 11 1 := ⟨cbX11_state, ⟨TX11, 17, rfl, by decide⟩, ax_gd (tb2 (List.mem_of_getElem? (i := 200) rfl)) rfl, imX11_state, seX11_state⟩
theorem imX12_state : Cond.instanceMethod yX12_state ∈ ax_good := ax_gd (tb6 (List.mem_of_getElem? (i := 93) rfl)) rfl
theorem seX12_state : Cond.selects RX12 yX12_state yX12_state ∈ ax_good := ax_gd (tb6 (List.mem_of_getElem? (i := 94) rfl)) rfl
theorem mlL_17 : ax_MV "RopeMindLaw" 17 iX12_state 12 1 := ⟨cbX12_state, ⟨TX12, 45, rfl, by decide⟩, ax_gd (tb6 (List.mem_of_getElem? (i := 92) rfl)) rfl, imX12_state, seX12_state⟩
theorem imX11_rope : Cond.instanceMethod yX11_rope ∈ ax_good := ax_gd (tb2 (List.mem_of_getElem? (i := 205) rfl)) rfl
theorem seX11_rope : Cond.selects RX11 yX11_rope yX11_rope ∈ ax_good := ax_gd (tb2 (List.mem_of_getElem? (i := 206) rfl)) rfl
theorem mlL_18 : ax_MV "RopeMindLaw" 18 iX11_rope 11 2 := ⟨cbX11_rope, ⟨TX11, 17, rfl, by decide⟩, ax_gd (tb2 (List.mem_of_getElem? (i := 204) rfl)) rfl, imX11_rope, seX11_rope⟩
theorem imX12_rope : Cond.instanceMethod yX12_rope ∈ ax_good := ax_gd (tb6 (List.mem_of_getElem? (i := 101) rfl)) rfl
theorem seX12_rope : Cond.selects RX12 yX12_rope yX12_rope ∈ ax_good := ax_gd (tb6 (List.mem_of_getElem? (i := 102) rfl)) rfl
theorem mlL_22 : ax_MV "RopeMindLaw" 22 iX12_rope 12 2 := ⟨cbX12_rope, ⟨TX12, 45, rfl, by decide⟩, ax_gd (tb6 (List.mem_of_getElem? (i := 100) rfl)) rfl, imX12_rope, seX12_rope⟩
theorem imX11_set : Cond.instanceMethod yX11_set ∈ ax_good := ax_gd (tb2 (List.mem_of_getElem? (i := 221) rfl)) rfl
theorem seX11_set : Cond.selects RX11 yX11_set yX11_set ∈ ax_good := ax_gd (tb2 (List.mem_of_getElem? (i := 222) rfl)) rfl
theorem mlL_23 : ax_MV "RopeMindLaw" 23 iX11_set 11 3 := ⟨cbX11_set, ⟨TX11, 17, rfl, by decide⟩, ax_gd (tb2 (List.mem_of_getElem? (i := 220) rfl)) rfl, imX11_set, seX11_set⟩
theorem imX12_set : Cond.instanceMethod yX12_set ∈ ax_good := ax_gd (tb6 (List.mem_of_getElem? (i := 132) rfl)) rfl
theorem seX12_set : Cond.selects RX12 yX12_set yX12_set ∈ ax_good := ax_gd (tb6 (List.mem_of_getElem? (i := 133) rfl)) rfl
theorem mlL_27 : ax_MV "RopeMindLaw" 27 iX12_set 12 3 := ⟨cbX12_set, ⟨TX12, 45, rfl, by decide⟩, ax_gd (tb6 (List.mem_of_getElem? (i := 131) rfl)) rfl, imX12_set, seX12_set⟩
theorem imX11_tie : Cond.instanceMethod yX11_tie ∈ ax_good := ax_gd (tb2 (List.mem_of_getElem? (i := 225) rfl)) rfl
theorem seX11_tie : Cond.selects RX11 yX11_tie yX11_tie ∈ ax_good := ax_gd (tb2 (List.mem_of_getElem? (i := 226) rfl)) rfl
theorem mlL_28 : ax_MV "RopeMindLaw" 28 iX11_tie 11 4 := ⟨cbX11_tie, ⟨TX11, 17, rfl, by decide⟩, ax_gd (tb2 (List.mem_of_getElem? (i := 224) rfl)) rfl, imX11_tie, seX11_tie⟩
theorem imX12_tie : Cond.instanceMethod yX12_tie ∈ ax_good := ax_gd (tb7 (List.mem_of_getElem? (i := 83) rfl)) rfl
theorem seX12_tie : Cond.selects RX12 yX12_tie yX12_tie ∈ ax_good := ax_gd (tb7 (List.mem_of_getElem? (i := 84) rfl)) rfl
theorem mlL_32 : ax_MV "RopeMindLaw" 32 iX12_tie 12 4 := ⟨cbX12_tie, ⟨TX12, 45, rfl, by decide⟩, ax_gd (tb7 (List.mem_of_getElem? (i := 82) rfl)) rfl, imX12_tie, seX12_tie⟩
theorem imX11_untie : Cond.instanceMethod yX11_untie ∈ ax_good := ax_gd (tb3 (List.mem_of_getElem? (i := 33) rfl)) rfl
theorem seX11_untie : Cond.selects RX11 yX11_untie yX11_untie ∈ ax_good := ax_gd (tb3 (List.mem_of_getElem? (i := 34) rfl)) rfl
theorem mlL_33 : ax_MV "RopeMindLaw" 33 iX11_untie 11 2 := ⟨cbX11_untie, ⟨TX11, 17, rfl, by decide⟩, ax_gd (tb3 (List.mem_of_getElem? (i := 32) rfl)) rfl, imX11_untie, seX11_untie⟩
theorem imX12_untie : Cond.instanceMethod yX12_untie ∈ ax_good := ax_gd (tb7 (List.mem_of_getElem? (i := 130) rfl)) rfl
theorem seX12_untie : Cond.selects RX12 yX12_untie yX12_untie ∈ ax_good := ax_gd (tb7 (List.mem_of_getElem? (i := 131) rfl)) rfl
theorem mlL_36 : ax_MV "RopeMindLaw" 36 iX12_untie 12 2 := ⟨cbX12_untie, ⟨TX12, 45, rfl, by decide⟩, ax_gd (tb7 (List.mem_of_getElem? (i := 129) rfl)) rfl, imX12_untie, seX12_untie⟩
theorem imX11_pull : Cond.instanceMethod yX11_pull ∈ ax_good := ax_gd (tb3 (List.mem_of_getElem? (i := 41) rfl)) rfl
theorem seX11_pull : Cond.selects RX11 yX11_pull yX11_pull ∈ ax_good := ax_gd (tb3 (List.mem_of_getElem? (i := 42) rfl)) rfl
theorem mlL_37 : ax_MV "RopeMindLaw" 37 iX11_pull 11 2 := ⟨cbX11_pull, ⟨TX11, 17, rfl, by decide⟩, ax_gd (tb3 (List.mem_of_getElem? (i := 40) rfl)) rfl, imX11_pull, seX11_pull⟩
theorem imX12_pull : Cond.instanceMethod yX12_pull ∈ ax_good := ax_gd (tb7 (List.mem_of_getElem? (i := 181) rfl)) rfl
theorem seX12_pull : Cond.selects RX12 yX12_pull yX12_pull ∈ ax_good := ax_gd (tb7 (List.mem_of_getElem? (i := 182) rfl)) rfl
theorem mlL_40 : ax_MV "RopeMindLaw" 40 iX12_pull 12 2 := ⟨cbX12_pull, ⟨TX12, 45, rfl, by decide⟩, ax_gd (tb7 (List.mem_of_getElem? (i := 180) rfl)) rfl, imX12_pull, seX12_pull⟩
theorem imX11_wet : Cond.instanceMethod yX11_wet ∈ ax_good := ax_gd (tb3 (List.mem_of_getElem? (i := 117) rfl)) rfl
theorem seX11_wet : Cond.selects RX11 yX11_wet yX11_wet ∈ ax_good := ax_gd (tb3 (List.mem_of_getElem? (i := 118) rfl)) rfl
theorem mlL_41 : ax_MV "RopeMindLaw" 41 iX11_wet 11 2 := ⟨cbX11_wet, ⟨TX11, 17, rfl, by decide⟩, ax_gd (tb3 (List.mem_of_getElem? (i := 116) rfl)) rfl, imX11_wet, seX11_wet⟩
theorem imX12_wet : Cond.instanceMethod yX12_wet ∈ ax_good := ax_gd (tb7 (List.mem_of_getElem? (i := 134) rfl)) rfl
theorem seX12_wet : Cond.selects RX12 yX12_wet yX12_wet ∈ ax_good := ax_gd (tb7 (List.mem_of_getElem? (i := 135) rfl)) rfl
theorem mlL_45 : ax_MV "RopeMindLaw" 45 iX12_wet 12 2 := ⟨cbX12_wet, ⟨TX12, 45, rfl, by decide⟩, ax_gd (tb7 (List.mem_of_getElem? (i := 133) rfl)) rfl, imX12_wet, seX12_wet⟩
theorem imX11_cut : Cond.instanceMethod yX11_cut ∈ ax_good := ax_gd (tb3 (List.mem_of_getElem? (i := 126) rfl)) rfl
theorem seX11_cut : Cond.selects RX11 yX11_cut yX11_cut ∈ ax_good := ax_gd (tb3 (List.mem_of_getElem? (i := 127) rfl)) rfl
theorem mlL_46 : ax_MV "RopeMindLaw" 46 iX11_cut 11 2 := ⟨cbX11_cut, ⟨TX11, 17, rfl, by decide⟩, ax_gd (tb3 (List.mem_of_getElem? (i := 125) rfl)) rfl, imX11_cut, seX11_cut⟩
theorem imX12_cut : Cond.instanceMethod yX12_cut ∈ ax_good := ax_gd (tb7 (List.mem_of_getElem? (i := 146) rfl)) rfl
theorem seX12_cut : Cond.selects RX12 yX12_cut yX12_cut ∈ ax_good := ax_gd (tb7 (List.mem_of_getElem? (i := 147) rfl)) rfl
theorem mlL_49 : ax_MV "RopeMindLaw" 49 iX12_cut 12 2 := ⟨cbX12_cut, ⟨TX12, 45, rfl, by decide⟩, ax_gd (tb7 (List.mem_of_getElem? (i := 145) rfl)) rfl, imX12_cut, seX12_cut⟩
theorem imX11_splice : Cond.instanceMethod yX11_splice ∈ ax_good := ax_gd (tb3 (List.mem_of_getElem? (i := 130) rfl)) rfl
theorem seX11_splice : Cond.selects RX11 yX11_splice yX11_splice ∈ ax_good := ax_gd (tb3 (List.mem_of_getElem? (i := 131) rfl)) rfl
theorem mlL_50 : ax_MV "RopeMindLaw" 50 iX11_splice 11 2 := ⟨cbX11_splice, ⟨TX11, 17, rfl, by decide⟩, ax_gd (tb3 (List.mem_of_getElem? (i := 129) rfl)) rfl, imX11_splice, seX11_splice⟩
theorem imX12_splice : Cond.instanceMethod yX12_splice ∈ ax_good := ax_gd (tb7 (List.mem_of_getElem? (i := 169) rfl)) rfl
theorem seX12_splice : Cond.selects RX12 yX12_splice yX12_splice ∈ ax_good := ax_gd (tb7 (List.mem_of_getElem? (i := 170) rfl)) rfl
theorem mlL_53 : ax_MV "RopeMindLaw" 53 iX12_splice 12 2 := ⟨cbX12_splice, ⟨TX12, 45, rfl, by decide⟩, ax_gd (tb7 (List.mem_of_getElem? (i := 168) rfl)) rfl, imX12_splice, seX12_splice⟩
theorem imX11_sell : Cond.instanceMethod yX11_sell ∈ ax_good := ax_gd (tb3 (List.mem_of_getElem? (i := 145) rfl)) rfl
theorem seX11_sell : Cond.selects RX11 yX11_sell yX11_sell ∈ ax_good := ax_gd (tb3 (List.mem_of_getElem? (i := 146) rfl)) rfl
theorem mlL_54 : ax_MV "RopeMindLaw" 54 iX11_sell 11 2 := ⟨cbX11_sell, ⟨TX11, 17, rfl, by decide⟩, ax_gd (tb3 (List.mem_of_getElem? (i := 144) rfl)) rfl, imX11_sell, seX11_sell⟩
theorem imX12_sell : Cond.instanceMethod yX12_sell ∈ ax_good := ax_gd (tb7 (List.mem_of_getElem? (i := 177) rfl)) rfl
theorem seX12_sell : Cond.selects RX12 yX12_sell yX12_sell ∈ ax_good := ax_gd (tb7 (List.mem_of_getElem? (i := 178) rfl)) rfl
theorem mlL_57 : ax_MV "RopeMindLaw" 57 iX12_sell 12 2 := ⟨cbX12_sell, ⟨TX12, 45, rfl, by decide⟩, ax_gd (tb7 (List.mem_of_getElem? (i := 176) rfl)) rfl, imX12_sell, seX12_sell⟩
theorem imX11_days : Cond.instanceMethod yX11_days ∈ ax_good := ax_gd (tb3 (List.mem_of_getElem? (i := 149) rfl)) rfl
theorem seX11_days : Cond.selects RX11 yX11_days yX11_days ∈ ax_good := ax_gd (tb3 (List.mem_of_getElem? (i := 150) rfl)) rfl
theorem mlL_58 : ax_MV "RopeMindLaw" 58 iX11_days 11 1 := ⟨cbX11_days, ⟨TX11, 17, rfl, by decide⟩, ax_gd (tb3 (List.mem_of_getElem? (i := 148) rfl)) rfl, imX11_days, seX11_days⟩
theorem imX12_days : Cond.instanceMethod yX12_days ∈ ax_good := ax_gd (tb8 (List.mem_of_getElem? (i := 4) rfl)) rfl
theorem seX12_days : Cond.selects RX12 yX12_days yX12_days ∈ ax_good := ax_gd (tb8 (List.mem_of_getElem? (i := 5) rfl)) rfl
theorem mlL_61 : ax_MV "RopeMindLaw" 61 iX12_days 12 1 := ⟨cbX12_days, ⟨TX12, 45, rfl, by decide⟩, ax_gd (tb8 (List.mem_of_getElem? (i := 3) rfl)) rfl, imX12_days, seX12_days⟩
theorem imX11_feed : Cond.instanceMethod yX11_feed ∈ ax_good := ax_gd (tb3 (List.mem_of_getElem? (i := 176) rfl)) rfl
theorem seX11_feed : Cond.selects RX11 yX11_feed yX11_feed ∈ ax_good := ax_gd (tb3 (List.mem_of_getElem? (i := 177) rfl)) rfl
theorem mlL_62 : ax_MV "RopeMindLaw" 62 iX11_feed 11 5 := ⟨cbX11_feed, ⟨TX11, 17, rfl, by decide⟩, ax_gd (tb3 (List.mem_of_getElem? (i := 175) rfl)) rfl, imX11_feed, seX11_feed⟩
theorem imX12_feed : Cond.instanceMethod yX12_feed ∈ ax_good := ax_gd (tb6 (List.mem_of_getElem? (i := 139) rfl)) rfl
theorem seX12_feed : Cond.selects RX12 yX12_feed yX12_feed ∈ ax_good := ax_gd (tb6 (List.mem_of_getElem? (i := 140) rfl)) rfl
theorem mlL_66 : ax_MV "RopeMindLaw" 66 iX12_feed 12 5 := ⟨cbX12_feed, ⟨TX12, 45, rfl, by decide⟩, ax_gd (tb6 (List.mem_of_getElem? (i := 138) rfl)) rfl, imX12_feed, seX12_feed⟩
theorem imX11_end : Cond.instanceMethod yX11_end ∈ ax_good := ax_gd (tb3 (List.mem_of_getElem? (i := 184) rfl)) rfl
theorem seX11_end : Cond.selects RX11 yX11_end yX11_end ∈ ax_good := ax_gd (tb3 (List.mem_of_getElem? (i := 185) rfl)) rfl
theorem mlL_67 : ax_MV "RopeMindLaw" 67 iX11_end 11 1 := ⟨cbX11_end, ⟨TX11, 17, rfl, by decide⟩, ax_gd (tb3 (List.mem_of_getElem? (i := 183) rfl)) rfl, imX11_end, seX11_end⟩
theorem imX12_end : Cond.instanceMethod yX12_end ∈ ax_good := ax_gd (tb6 (List.mem_of_getElem? (i := 143) rfl)) rfl
theorem seX12_end : Cond.selects RX12 yX12_end yX12_end ∈ ax_good := ax_gd (tb6 (List.mem_of_getElem? (i := 144) rfl)) rfl
theorem mlL_71 : ax_MV "RopeMindLaw" 71 iX12_end 12 1 := ⟨cbX12_end, ⟨TX12, 45, rfl, by decide⟩, ax_gd (tb6 (List.mem_of_getElem? (i := 142) rfl)) rfl, imX12_end, seX12_end⟩
theorem imX11_text : Cond.instanceMethod yX11_text ∈ ax_good := ax_gd (tb3 (List.mem_of_getElem? (i := 188) rfl)) rfl
theorem seX11_text : Cond.selects RX11 yX11_text yX11_text ∈ ax_good := ax_gd (tb3 (List.mem_of_getElem? (i := 189) rfl)) rfl
theorem mlL_72 : ax_MV "RopeMindLaw" 72 iX11_text 11 1 := ⟨cbX11_text, ⟨TX11, 17, rfl, by decide⟩, ax_gd (tb3 (List.mem_of_getElem? (i := 187) rfl)) rfl, imX11_text, seX11_text⟩
theorem imX12_text : Cond.instanceMethod yX12_text ∈ ax_good := ax_gd (tb6 (List.mem_of_getElem? (i := 147) rfl)) rfl
theorem seX12_text : Cond.selects RX12 yX12_text yX12_text ∈ ax_good := ax_gd (tb6 (List.mem_of_getElem? (i := 148) rfl)) rfl
theorem mlL_75 : ax_MV "RopeMindLaw" 75 iX12_text 12 1 := ⟨cbX12_text, ⟨TX12, 45, rfl, by decide⟩, ax_gd (tb6 (List.mem_of_getElem? (i := 146) rfl)) rfl, imX12_text, seX12_text⟩
theorem imX11_fault : Cond.instanceMethod yX11_fault ∈ ax_good := ax_gd (tb4 (List.mem_of_getElem? (i := 214) rfl)) rfl
theorem seX11_fault : Cond.selects RX11 yX11_fault yX11_fault ∈ ax_good := ax_gd (tb4 (List.mem_of_getElem? (i := 215) rfl)) rfl
theorem mlL_76 : ax_MV "RopeMindLaw" 76 iX11_fault 11 1 := ⟨cbX11_fault, ⟨TX11, 17, rfl, by decide⟩, ax_gd (tb4 (List.mem_of_getElem? (i := 213) rfl)) rfl, imX11_fault, seX11_fault⟩
theorem imX12_fault : Cond.instanceMethod yX12_fault ∈ ax_good := ax_gd (tb7 (List.mem_of_getElem? (i := 75) rfl)) rfl
theorem seX12_fault : Cond.selects RX12 yX12_fault yX12_fault ∈ ax_good := ax_gd (tb7 (List.mem_of_getElem? (i := 76) rfl)) rfl
theorem mlL_79 : ax_MV "RopeMindLaw" 79 iX12_fault 12 1 := ⟨cbX12_fault, ⟨TX12, 45, rfl, by decide⟩, ax_gd (tb7 (List.mem_of_getElem? (i := 74) rfl)) rfl, imX12_fault, seX12_fault⟩
theorem imX11_drill : Cond.instanceMethod yX11_drill ∈ ax_good := ax_gd (tb4 (List.mem_of_getElem? (i := 218) rfl)) rfl
theorem seX11_drill : Cond.selects RX11 yX11_drill yX11_drill ∈ ax_good := ax_gd (tb4 (List.mem_of_getElem? (i := 219) rfl)) rfl
theorem mlL_80 : ax_MV "RopeMindLaw" 80 iX11_drill 11 2 := ⟨cbX11_drill, ⟨TX11, 17, rfl, by decide⟩, ax_gd (tb4 (List.mem_of_getElem? (i := 217) rfl)) rfl, imX11_drill, seX11_drill⟩
theorem imX12_drill : Cond.instanceMethod yX12_drill ∈ ax_good := ax_gd (tb8 (List.mem_of_getElem? (i := 30) rfl)) rfl
theorem seX12_drill : Cond.selects RX12 yX12_drill yX12_drill ∈ ax_good := ax_gd (tb8 (List.mem_of_getElem? (i := 31) rfl)) rfl
theorem mlL_83 : ax_MV "RopeMindLaw" 83 iX12_drill 12 2 := ⟨cbX12_drill, ⟨TX12, 45, rfl, by decide⟩, ax_gd (tb8 (List.mem_of_getElem? (i := 29) rfl)) rfl, imX12_drill, seX12_drill⟩
theorem imX11_of : Cond.instanceMethod yX11_of ∈ ax_good := ax_gd (tb4 (List.mem_of_getElem? (i := 230) rfl)) rfl
theorem seX11_of : Cond.selects RX11 yX11_of yX11_of ∈ ax_good := ax_gd (tb4 (List.mem_of_getElem? (i := 231) rfl)) rfl
theorem mlL_84 : ax_MV "RopeMindLaw" 84 iX11_of 11 2 := ⟨cbX11_of, ⟨TX11, 17, rfl, by decide⟩, ax_gd (tb4 (List.mem_of_getElem? (i := 229) rfl)) rfl, imX11_of, seX11_of⟩
theorem imX12_of : Cond.instanceMethod yX12_of ∈ ax_good := ax_gd (tb8 (List.mem_of_getElem? (i := 38) rfl)) rfl
theorem seX12_of : Cond.selects RX12 yX12_of yX12_of ∈ ax_good := ax_gd (tb8 (List.mem_of_getElem? (i := 39) rfl)) rfl
theorem mlL_87 : ax_MV "RopeMindLaw" 87 iX12_of 12 2 := ⟨cbX12_of, ⟨TX12, 45, rfl, by decide⟩, ax_gd (tb8 (List.mem_of_getElem? (i := 37) rfl)) rfl, imX12_of, seX12_of⟩
theorem imX11_at : Cond.instanceMethod yX11_at ∈ ax_good := ax_gd (tb5 (List.mem_of_getElem? (i := 0) rfl)) rfl
theorem seX11_at : Cond.selects RX11 yX11_at yX11_at ∈ ax_good := ax_gd (tb5 (List.mem_of_getElem? (i := 1) rfl)) rfl
theorem mlL_88 : ax_MV "RopeMindLaw" 88 iX11_at 11 3 := ⟨cbX11_at, ⟨TX11, 17, rfl, by decide⟩, ax_gd (tb4 (List.mem_of_getElem? (i := 239) rfl)) rfl, imX11_at, seX11_at⟩
theorem imX12_at : Cond.instanceMethod yX12_at ∈ ax_good := ax_gd (tb8 (List.mem_of_getElem? (i := 46) rfl)) rfl
theorem seX12_at : Cond.selects RX12 yX12_at yX12_at ∈ ax_good := ax_gd (tb8 (List.mem_of_getElem? (i := 47) rfl)) rfl
theorem mlL_92 : ax_MV "RopeMindLaw" 92 iX12_at 12 3 := ⟨cbX12_at, ⟨TX12, 45, rfl, by decide⟩, ax_gd (tb8 (List.mem_of_getElem? (i := 45) rfl)) rfl, imX12_at, seX12_at⟩
theorem imX11_habit : Cond.instanceMethod yX11_habit ∈ ax_good := ax_gd (tb5 (List.mem_of_getElem? (i := 7) rfl)) rfl
theorem seX11_habit : Cond.selects RX11 yX11_habit yX11_habit ∈ ax_good := ax_gd (tb5 (List.mem_of_getElem? (i := 8) rfl)) rfl
theorem mlL_93 : ax_MV "RopeMindLaw" 93 iX11_habit 11 4 := ⟨cbX11_habit, ⟨TX11, 17, rfl, by decide⟩, ax_gd (tb5 (List.mem_of_getElem? (i := 6) rfl)) rfl, imX11_habit, seX11_habit⟩
theorem imX12_habit : Cond.instanceMethod yX12_habit ∈ ax_good := ax_gd (tb8 (List.mem_of_getElem? (i := 50) rfl)) rfl
theorem seX12_habit : Cond.selects RX12 yX12_habit yX12_habit ∈ ax_good := ax_gd (tb8 (List.mem_of_getElem? (i := 51) rfl)) rfl
theorem mlL_97 : ax_MV "RopeMindLaw" 97 iX12_habit 12 4 := ⟨cbX12_habit, ⟨TX12, 45, rfl, by decide⟩, ax_gd (tb8 (List.mem_of_getElem? (i := 49) rfl)) rfl, imX12_habit, seX12_habit⟩
theorem imX11_book : Cond.instanceMethod yX11_book ∈ ax_good := ax_gd (tb5 (List.mem_of_getElem? (i := 12) rfl)) rfl
theorem seX11_book : Cond.selects RX11 yX11_book yX11_book ∈ ax_good := ax_gd (tb5 (List.mem_of_getElem? (i := 13) rfl)) rfl
theorem mlL_98 : ax_MV "RopeMindLaw" 98 iX11_book 11 2 := ⟨cbX11_book, ⟨TX11, 17, rfl, by decide⟩, ax_gd (tb5 (List.mem_of_getElem? (i := 11) rfl)) rfl, imX11_book, seX11_book⟩
theorem imX12_book : Cond.instanceMethod yX12_book ∈ ax_good := ax_gd (tb8 (List.mem_of_getElem? (i := 54) rfl)) rfl
theorem seX12_book : Cond.selects RX12 yX12_book yX12_book ∈ ax_good := ax_gd (tb8 (List.mem_of_getElem? (i := 55) rfl)) rfl
theorem mlL_101 : ax_MV "RopeMindLaw" 101 iX12_book 12 2 := ⟨cbX12_book, ⟨TX12, 45, rfl, by decide⟩, ax_gd (tb8 (List.mem_of_getElem? (i := 53) rfl)) rfl, imX12_book, seX12_book⟩
theorem imX11_would : Cond.instanceMethod yX11_would ∈ ax_good := ax_gd (tb5 (List.mem_of_getElem? (i := 20) rfl)) rfl
theorem seX11_would : Cond.selects RX11 yX11_would yX11_would ∈ ax_good := ax_gd (tb5 (List.mem_of_getElem? (i := 21) rfl)) rfl
theorem mlL_102 : ax_MV "RopeMindLaw" 102 iX11_would 11 3 := ⟨cbX11_would, ⟨TX11, 17, rfl, by decide⟩, ax_gd (tb5 (List.mem_of_getElem? (i := 19) rfl)) rfl, imX11_would, seX11_would⟩
theorem imX12_would : Cond.instanceMethod yX12_would ∈ ax_good := ax_gd (tb8 (List.mem_of_getElem? (i := 58) rfl)) rfl
theorem seX12_would : Cond.selects RX12 yX12_would yX12_would ∈ ax_good := ax_gd (tb8 (List.mem_of_getElem? (i := 59) rfl)) rfl
theorem mlL_105 : ax_MV "RopeMindLaw" 105 iX12_would 12 3 := ⟨cbX12_would, ⟨TX12, 45, rfl, by decide⟩, ax_gd (tb8 (List.mem_of_getElem? (i := 57) rfl)) rfl, imX12_would, seX12_would⟩
theorem imX11_least : Cond.instanceMethod yX11_least ∈ ax_good := ax_gd (tb5 (List.mem_of_getElem? (i := 25) rfl)) rfl
theorem seX11_least : Cond.selects RX11 yX11_least yX11_least ∈ ax_good := ax_gd (tb5 (List.mem_of_getElem? (i := 26) rfl)) rfl
theorem mlL_106 : ax_MV "RopeMindLaw" 106 iX11_least 11 2 := ⟨cbX11_least, ⟨TX11, 17, rfl, by decide⟩, ax_gd (tb5 (List.mem_of_getElem? (i := 24) rfl)) rfl, imX11_least, seX11_least⟩
theorem imX12_least : Cond.instanceMethod yX12_least ∈ ax_good := ax_gd (tb8 (List.mem_of_getElem? (i := 74) rfl)) rfl
theorem seX12_least : Cond.selects RX12 yX12_least yX12_least ∈ ax_good := ax_gd (tb8 (List.mem_of_getElem? (i := 75) rfl)) rfl
theorem mlL_109 : ax_MV "RopeMindLaw" 109 iX12_least 12 2 := ⟨cbX12_least, ⟨TX12, 45, rfl, by decide⟩, ax_gd (tb8 (List.mem_of_getElem? (i := 73) rfl)) rfl, imX12_least, seX12_least⟩
theorem imX11_train : Cond.instanceMethod yX11_train ∈ ax_good := ax_gd (tb5 (List.mem_of_getElem? (i := 29) rfl)) rfl
theorem seX11_train : Cond.selects RX11 yX11_train yX11_train ∈ ax_good := ax_gd (tb5 (List.mem_of_getElem? (i := 30) rfl)) rfl
theorem mlL_110 : ax_MV "RopeMindLaw" 110 iX11_train 11 4 := ⟨cbX11_train, ⟨TX11, 17, rfl, by decide⟩, ax_gd (tb5 (List.mem_of_getElem? (i := 28) rfl)) rfl, imX11_train, seX11_train⟩
theorem imX12_train : Cond.instanceMethod yX12_train ∈ ax_good := ax_gd (tb8 (List.mem_of_getElem? (i := 78) rfl)) rfl
theorem seX12_train : Cond.selects RX12 yX12_train yX12_train ∈ ax_good := ax_gd (tb8 (List.mem_of_getElem? (i := 79) rfl)) rfl
theorem mlL_113 : ax_MV "RopeMindLaw" 113 iX12_train 12 4 := ⟨cbX12_train, ⟨TX12, 45, rfl, by decide⟩, ax_gd (tb8 (List.mem_of_getElem? (i := 77) rfl)) rfl, imX12_train, seX12_train⟩
theorem imX11_told : Cond.instanceMethod yX11_told ∈ ax_good := ax_gd (tb5 (List.mem_of_getElem? (i := 38) rfl)) rfl
theorem seX11_told : Cond.selects RX11 yX11_told yX11_told ∈ ax_good := ax_gd (tb5 (List.mem_of_getElem? (i := 39) rfl)) rfl
theorem mlL_114 : ax_MV "RopeMindLaw" 114 iX11_told 11 2 := ⟨cbX11_told, ⟨TX11, 17, rfl, by decide⟩, ax_gd (tb5 (List.mem_of_getElem? (i := 37) rfl)) rfl, imX11_told, seX11_told⟩
theorem imX12_told : Cond.instanceMethod yX12_told ∈ ax_good := ax_gd (tb8 (List.mem_of_getElem? (i := 82) rfl)) rfl
theorem seX12_told : Cond.selects RX12 yX12_told yX12_told ∈ ax_good := ax_gd (tb8 (List.mem_of_getElem? (i := 83) rfl)) rfl
theorem mlL_117 : ax_MV "RopeMindLaw" 117 iX12_told 12 2 := ⟨cbX12_told, ⟨TX12, 45, rfl, by decide⟩, ax_gd (tb8 (List.mem_of_getElem? (i := 81) rfl)) rfl, imX12_told, seX12_told⟩
theorem imX11_fits : Cond.instanceMethod yX11_fits ∈ ax_good := ax_gd (tb5 (List.mem_of_getElem? (i := 42) rfl)) rfl
theorem seX11_fits : Cond.selects RX11 yX11_fits yX11_fits ∈ ax_good := ax_gd (tb5 (List.mem_of_getElem? (i := 43) rfl)) rfl
theorem mlL_118 : ax_MV "RopeMindLaw" 118 iX11_fits 11 3 := ⟨cbX11_fits, ⟨TX11, 17, rfl, by decide⟩, ax_gd (tb5 (List.mem_of_getElem? (i := 41) rfl)) rfl, imX11_fits, seX11_fits⟩
theorem imX12_fits : Cond.instanceMethod yX12_fits ∈ ax_good := ax_gd (tb8 (List.mem_of_getElem? (i := 86) rfl)) rfl
theorem seX12_fits : Cond.selects RX12 yX12_fits yX12_fits ∈ ax_good := ax_gd (tb8 (List.mem_of_getElem? (i := 87) rfl)) rfl
theorem mlL_121 : ax_MV "RopeMindLaw" 121 iX12_fits 12 3 := ⟨cbX12_fits, ⟨TX12, 45, rfl, by decide⟩, ax_gd (tb8 (List.mem_of_getElem? (i := 85) rfl)) rfl, imX12_fits, seX12_fits⟩
theorem imX11_weak : Cond.instanceMethod yX11_weak ∈ ax_good := ax_gd (tb5 (List.mem_of_getElem? (i := 60) rfl)) rfl
theorem seX11_weak : Cond.selects RX11 yX11_weak yX11_weak ∈ ax_good := ax_gd (tb5 (List.mem_of_getElem? (i := 61) rfl)) rfl
theorem mlL_122 : ax_MV "RopeMindLaw" 122 iX11_weak 11 2 := ⟨cbX11_weak, ⟨TX11, 17, rfl, by decide⟩, ax_gd (tb5 (List.mem_of_getElem? (i := 59) rfl)) rfl, imX11_weak, seX11_weak⟩
theorem imX12_weak : Cond.instanceMethod yX12_weak ∈ ax_good := ax_gd (tb8 (List.mem_of_getElem? (i := 98) rfl)) rfl
theorem seX12_weak : Cond.selects RX12 yX12_weak yX12_weak ∈ ax_good := ax_gd (tb8 (List.mem_of_getElem? (i := 99) rfl)) rfl
theorem mlL_125 : ax_MV "RopeMindLaw" 125 iX12_weak 12 2 := ⟨cbX12_weak, ⟨TX12, 45, rfl, by decide⟩, ax_gd (tb8 (List.mem_of_getElem? (i := 97) rfl)) rfl, imX12_weak, seX12_weak⟩
theorem imX11_ladder : Cond.instanceMethod yX11_ladder ∈ ax_good := ax_gd (tb5 (List.mem_of_getElem? (i := 64) rfl)) rfl
theorem seX11_ladder : Cond.selects RX11 yX11_ladder yX11_ladder ∈ ax_good := ax_gd (tb5 (List.mem_of_getElem? (i := 65) rfl)) rfl
theorem mlL_126 : ax_MV "RopeMindLaw" 126 iX11_ladder 11 1 := ⟨cbX11_ladder, ⟨TX11, 17, rfl, by decide⟩, ax_gd (tb5 (List.mem_of_getElem? (i := 63) rfl)) rfl, imX11_ladder, seX11_ladder⟩
theorem imX12_ladder : Cond.instanceMethod yX12_ladder ∈ ax_good := ax_gd (tb8 (List.mem_of_getElem? (i := 102) rfl)) rfl
theorem seX12_ladder : Cond.selects RX12 yX12_ladder yX12_ladder ∈ ax_good := ax_gd (tb8 (List.mem_of_getElem? (i := 103) rfl)) rfl
theorem mlL_129 : ax_MV "RopeMindLaw" 129 iX12_ladder 12 1 := ⟨cbX12_ladder, ⟨TX12, 45, rfl, by decide⟩, ax_gd (tb8 (List.mem_of_getElem? (i := 101) rfl)) rfl, imX12_ladder, seX12_ladder⟩
theorem imX11_order : Cond.instanceMethod yX11_order ∈ ax_good := ax_gd (tb5 (List.mem_of_getElem? (i := 68) rfl)) rfl
theorem seX11_order : Cond.selects RX11 yX11_order yX11_order ∈ ax_good := ax_gd (tb5 (List.mem_of_getElem? (i := 69) rfl)) rfl
theorem mlL_130 : ax_MV "RopeMindLaw" 130 iX11_order 11 1 := ⟨cbX11_order, ⟨TX11, 17, rfl, by decide⟩, ax_gd (tb5 (List.mem_of_getElem? (i := 67) rfl)) rfl, imX11_order, seX11_order⟩
theorem imX12_order : Cond.instanceMethod yX12_order ∈ ax_good := ax_gd (tb8 (List.mem_of_getElem? (i := 107) rfl)) rfl
theorem seX12_order : Cond.selects RX12 yX12_order yX12_order ∈ ax_good := ax_gd (tb8 (List.mem_of_getElem? (i := 108) rfl)) rfl
theorem mlL_133 : ax_MV "RopeMindLaw" 133 iX12_order 12 1 := ⟨cbX12_order, ⟨TX12, 45, rfl, by decide⟩, ax_gd (tb8 (List.mem_of_getElem? (i := 106) rfl)) rfl, imX12_order, seX12_order⟩
theorem imX11_yard : Cond.instanceMethod yX11_yard ∈ ax_good := ax_gd (tb5 (List.mem_of_getElem? (i := 72) rfl)) rfl
theorem seX11_yard : Cond.selects RX11 yX11_yard yX11_yard ∈ ax_good := ax_gd (tb5 (List.mem_of_getElem? (i := 73) rfl)) rfl
theorem mlL_134 : ax_MV "RopeMindLaw" 134 iX11_yard 11 1 := ⟨cbX11_yard, ⟨TX11, 17, rfl, by decide⟩, ax_gd (tb5 (List.mem_of_getElem? (i := 71) rfl)) rfl, imX11_yard, seX11_yard⟩
theorem imX12_yard : Cond.instanceMethod yX12_yard ∈ ax_good := ax_gd (tb8 (List.mem_of_getElem? (i := 111) rfl)) rfl
theorem seX12_yard : Cond.selects RX12 yX12_yard yX12_yard ∈ ax_good := ax_gd (tb8 (List.mem_of_getElem? (i := 112) rfl)) rfl
theorem mlL_137 : ax_MV "RopeMindLaw" 137 iX12_yard 12 1 := ⟨cbX12_yard, ⟨TX12, 45, rfl, by decide⟩, ax_gd (tb8 (List.mem_of_getElem? (i := 110) rfl)) rfl, imX12_yard, seX12_yard⟩
theorem imX11_moves : Cond.instanceMethod yX11_moves ∈ ax_good := ax_gd (tb5 (List.mem_of_getElem? (i := 94) rfl)) rfl
theorem seX11_moves : Cond.selects RX11 yX11_moves yX11_moves ∈ ax_good := ax_gd (tb5 (List.mem_of_getElem? (i := 95) rfl)) rfl
theorem mlL_138 : ax_MV "RopeMindLaw" 138 iX11_moves 11 2 := ⟨cbX11_moves, ⟨TX11, 17, rfl, by decide⟩, ax_gd (tb5 (List.mem_of_getElem? (i := 93) rfl)) rfl, imX11_moves, seX11_moves⟩
theorem imX12_moves : Cond.instanceMethod yX12_moves ∈ ax_good := ax_gd (tb8 (List.mem_of_getElem? (i := 122) rfl)) rfl
theorem seX12_moves : Cond.selects RX12 yX12_moves yX12_moves ∈ ax_good := ax_gd (tb8 (List.mem_of_getElem? (i := 123) rfl)) rfl
theorem mlL_141 : ax_MV "RopeMindLaw" 141 iX12_moves 12 2 := ⟨cbX12_moves, ⟨TX12, 45, rfl, by decide⟩, ax_gd (tb8 (List.mem_of_getElem? (i := 121) rfl)) rfl, imX12_moves, seX12_moves⟩
theorem imX11_shape : Cond.instanceMethod yX11_shape ∈ ax_good := ax_gd (tb5 (List.mem_of_getElem? (i := 140) rfl)) rfl
theorem seX11_shape : Cond.selects RX11 yX11_shape yX11_shape ∈ ax_good := ax_gd (tb5 (List.mem_of_getElem? (i := 141) rfl)) rfl
theorem mlL_142 : ax_MV "RopeMindLaw" 142 iX11_shape 11 2 := ⟨cbX11_shape, ⟨TX11, 17, rfl, by decide⟩, ax_gd (tb5 (List.mem_of_getElem? (i := 139) rfl)) rfl, imX11_shape, seX11_shape⟩
theorem imX12_shape : Cond.instanceMethod yX12_shape ∈ ax_good := ax_gd (tb8 (List.mem_of_getElem? (i := 164) rfl)) rfl
theorem seX12_shape : Cond.selects RX12 yX12_shape yX12_shape ∈ ax_good := ax_gd (tb8 (List.mem_of_getElem? (i := 165) rfl)) rfl
theorem mlL_145 : ax_MV "RopeMindLaw" 145 iX12_shape 12 2 := ⟨cbX12_shape, ⟨TX12, 45, rfl, by decide⟩, ax_gd (tb8 (List.mem_of_getElem? (i := 163) rfl)) rfl, imX12_shape, seX12_shape⟩
theorem imX11_unlike : Cond.instanceMethod yX11_unlike ∈ ax_good := ax_gd (tb5 (List.mem_of_getElem? (i := 150) rfl)) rfl
theorem seX11_unlike : Cond.selects RX11 yX11_unlike yX11_unlike ∈ ax_good := ax_gd (tb5 (List.mem_of_getElem? (i := 151) rfl)) rfl
theorem mlL_146 : ax_MV "RopeMindLaw" 146 iX11_unlike 11 2 := ⟨cbX11_unlike, ⟨TX11, 17, rfl, by decide⟩, ax_gd (tb5 (List.mem_of_getElem? (i := 149) rfl)) rfl, imX11_unlike, seX11_unlike⟩
theorem imX12_unlike : Cond.instanceMethod yX12_unlike ∈ ax_good := ax_gd (tb8 (List.mem_of_getElem? (i := 172) rfl)) rfl
theorem seX12_unlike : Cond.selects RX12 yX12_unlike yX12_unlike ∈ ax_good := ax_gd (tb8 (List.mem_of_getElem? (i := 173) rfl)) rfl
theorem mlL_149 : ax_MV "RopeMindLaw" 149 iX12_unlike 12 2 := ⟨cbX12_unlike, ⟨TX12, 45, rfl, by decide⟩, ax_gd (tb8 (List.mem_of_getElem? (i := 171) rfl)) rfl, imX12_unlike, seX12_unlike⟩
theorem imX11_whose : Cond.instanceMethod yX11_whose ∈ ax_good := ax_gd (tb5 (List.mem_of_getElem? (i := 154) rfl)) rfl
theorem seX11_whose : Cond.selects RX11 yX11_whose yX11_whose ∈ ax_good := ax_gd (tb5 (List.mem_of_getElem? (i := 155) rfl)) rfl
theorem mlL_150 : ax_MV "RopeMindLaw" 150 iX11_whose 11 3 := ⟨cbX11_whose, ⟨TX11, 17, rfl, by decide⟩, ax_gd (tb5 (List.mem_of_getElem? (i := 153) rfl)) rfl, imX11_whose, seX11_whose⟩
theorem imX12_whose : Cond.instanceMethod yX12_whose ∈ ax_good := ax_gd (tb8 (List.mem_of_getElem? (i := 176) rfl)) rfl
theorem seX12_whose : Cond.selects RX12 yX12_whose yX12_whose ∈ ax_good := ax_gd (tb8 (List.mem_of_getElem? (i := 177) rfl)) rfl
theorem mlL_153 : ax_MV "RopeMindLaw" 153 iX12_whose 12 3 := ⟨cbX12_whose, ⟨TX12, 45, rfl, by decide⟩, ax_gd (tb8 (List.mem_of_getElem? (i := 175) rfl)) rfl, imX12_whose, seX12_whose⟩
theorem imX11_undo : Cond.instanceMethod yX11_undo ∈ ax_good := ax_gd (tb5 (List.mem_of_getElem? (i := 167) rfl)) rfl
theorem seX11_undo : Cond.selects RX11 yX11_undo yX11_undo ∈ ax_good := ax_gd (tb5 (List.mem_of_getElem? (i := 168) rfl)) rfl
theorem mlL_154 : ax_MV "RopeMindLaw" 154 iX11_undo 11 0 := ⟨cbX11_undo, ⟨TX11, 17, rfl, by decide⟩, ax_gd (tb5 (List.mem_of_getElem? (i := 166) rfl)) rfl, imX11_undo, seX11_undo⟩
theorem imX12_undo : Cond.instanceMethod yX12_undo ∈ ax_good := ax_gd (tb7 (List.mem_of_getElem? (i := 79) rfl)) rfl
theorem seX12_undo : Cond.selects RX12 yX12_undo yX12_undo ∈ ax_good := ax_gd (tb7 (List.mem_of_getElem? (i := 80) rfl)) rfl
theorem mlL_158 : ax_MV "RopeMindLaw" 158 iX12_undo 12 0 := ⟨cbX12_undo, ⟨TX12, 45, rfl, by decide⟩, ax_gd (tb7 (List.mem_of_getElem? (i := 78) rfl)) rfl, imX12_undo, seX12_undo⟩
theorem imX11_image : Cond.instanceMethod yX11_image ∈ ax_good := ax_gd (tb5 (List.mem_of_getElem? (i := 171) rfl)) rfl
theorem seX11_image : Cond.selects RX11 yX11_image yX11_image ∈ ax_good := ax_gd (tb5 (List.mem_of_getElem? (i := 172) rfl)) rfl
theorem mlL_159 : ax_MV "RopeMindLaw" 159 iX11_image 11 1 := ⟨cbX11_image, ⟨TX11, 17, rfl, by decide⟩, ax_gd (tb5 (List.mem_of_getElem? (i := 170) rfl)) rfl, imX11_image, seX11_image⟩
theorem imX12_image : Cond.instanceMethod yX12_image ∈ ax_good := ax_gd (tb8 (List.mem_of_getElem? (i := 180) rfl)) rfl
theorem seX12_image : Cond.selects RX12 yX12_image yX12_image ∈ ax_good := ax_gd (tb8 (List.mem_of_getElem? (i := 181) rfl)) rfl
theorem mlL_163 : ax_MV "RopeMindLaw" 163 iX12_image 12 1 := ⟨cbX12_image, ⟨TX12, 45, rfl, by decide⟩, ax_gd (tb8 (List.mem_of_getElem? (i := 179) rfl)) rfl, imX12_image, seX12_image⟩
theorem imX11_look : Cond.instanceMethod yX11_look ∈ ax_good := ax_gd (tb5 (List.mem_of_getElem? (i := 187) rfl)) rfl
theorem seX11_look : Cond.selects RX11 yX11_look yX11_look ∈ ax_good := ax_gd (tb5 (List.mem_of_getElem? (i := 188) rfl)) rfl
theorem mlL_164 : ax_MV "RopeMindLaw" 164 iX11_look 11 1 := ⟨cbX11_look, ⟨TX11, 17, rfl, by decide⟩, ax_gd (tb5 (List.mem_of_getElem? (i := 186) rfl)) rfl, imX11_look, seX11_look⟩
theorem imX12_look : Cond.instanceMethod yX12_look ∈ ax_good := ax_gd (tb8 (List.mem_of_getElem? (i := 184) rfl)) rfl
theorem seX12_look : Cond.selects RX12 yX12_look yX12_look ∈ ax_good := ax_gd (tb8 (List.mem_of_getElem? (i := 185) rfl)) rfl
theorem mlL_167 : ax_MV "RopeMindLaw" 167 iX12_look 12 1 := ⟨cbX12_look, ⟨TX12, 45, rfl, by decide⟩, ax_gd (tb8 (List.mem_of_getElem? (i := 183) rfl)) rfl, imX12_look, seX12_look⟩
theorem mlX0_3 : Cond.methodLink RX0 3 objectInit ∈ ax_good := ax_gd (tb1 (List.mem_of_getElem? (i := 134) rfl)) rfl
theorem flX0_11 : ax_FL RX0 11 0 0 1 true := ⟨RX0, TX0, rfl, by decide, by decide, ggX0, tyX0_ok, nmX0, ax_gd (tb1 (List.mem_of_getElem? (i := 135) rfl)) rfl, rfl⟩
theorem mlX0_15 : ax_CW RX0 15 := ⟨ax_gd (tb5 (List.mem_of_getElem? (i := 178) rfl)) rfl, ax_gd (tb3 (List.mem_of_getElem? (i := 7) rfl)) rfl, ax_gd (tb3 (List.mem_of_getElem? (i := 6) rfl)) rfl, ax_gd (tb1 (List.mem_of_getElem? (i := 15) rfl)) rfl⟩
theorem flX0_21 : ax_FL RX0 21 9 3 7 false := ⟨RX9, TX9, rfl, by decide, by decide, ggX9, tyX9_ok, nmX9, ax_gd (tb1 (List.mem_of_getElem? (i := 103) rfl)) rfl, rfl⟩
theorem flX0_27 : ax_FL RX0 27 9 0 7 false := ⟨RX9, TX9, rfl, by decide, by decide, ggX9, tyX9_ok, nmX9, ax_gd (tb1 (List.mem_of_getElem? (i := 94) rfl)) rfl, rfl⟩
theorem imX0_entry : Cond.instanceMethod yX0_entry ∈ ax_good := ax_gd (tb5 (List.mem_of_getElem? (i := 16) rfl)) rfl
theorem seX0_entry : Cond.selects RX0 yX0_entry yX0_entry ∈ ax_good := ax_gd (tb5 (List.mem_of_getElem? (i := 17) rfl)) rfl
theorem mlX0_30 : ax_MV RX0 30 iX0_entry 0 2 := ⟨cbX0_entry, ⟨TX0, 1, rfl, by decide⟩, ax_gd (tb5 (List.mem_of_getElem? (i := 161) rfl)) rfl, imX0_entry, seX0_entry⟩
theorem mlX1_3 : Cond.methodLink RX1 3 objectInit ∈ ax_good := ax_gd (tb1 (List.mem_of_getElem? (i := 152) rfl)) rfl
theorem flX1_11 : ax_FL RX1 11 1 1 7 true := ⟨RX1, TX1, rfl, by decide, by decide, ggX1, tyX1_ok, nmX1, ax_gd (tb1 (List.mem_of_getElem? (i := 155) rfl)) rfl, rfl⟩
theorem flX1_15 : ax_FL RX1 15 1 2 7 true := ⟨RX1, TX1, rfl, by decide, by decide, ggX1, tyX1_ok, nmX1, ax_gd (tb1 (List.mem_of_getElem? (i := 157) rfl)) rfl, rfl⟩
theorem flX1_18 : ax_FL RX1 18 1 3 7 true := ⟨RX1, TX1, rfl, by decide, by decide, ggX1, tyX1_ok, nmX1, ax_gd (tb1 (List.mem_of_getElem? (i := 159) rfl)) rfl, rfl⟩
theorem flX1_21 : ax_FL RX1 21 1 5 7 true := ⟨RX1, TX1, rfl, by decide, by decide, ggX1, tyX1_ok, nmX1, ax_gd (tb1 (List.mem_of_getElem? (i := 162) rfl)) rfl, rfl⟩
theorem flX1_24 : ax_FL RX1 24 1 6 7 true := ⟨RX1, TX1, rfl, by decide, by decide, ggX1, tyX1_ok, nmX1, ax_gd (tb1 (List.mem_of_getElem? (i := 163) rfl)) rfl, rfl⟩
theorem flX1_27 : ax_FL RX1 27 1 0 7 false := ⟨RX1, TX1, rfl, by decide, by decide, ggX1, tyX1_ok, nmX1, ax_gd (tb1 (List.mem_of_getElem? (i := 153) rfl)) rfl, rfl⟩
theorem mlX1_31 : ax_CW RX1 31 := ⟨ax_gd (tb4 (List.mem_of_getElem? (i := 199) rfl)) rfl, ax_gd (tb3 (List.mem_of_getElem? (i := 7) rfl)) rfl, ax_gd (tb3 (List.mem_of_getElem? (i := 6) rfl)) rfl, ax_gd (tb1 (List.mem_of_getElem? (i := 15) rfl)) rfl⟩
theorem flX1_37 : ax_FL RX1 37 1 4 7 false := ⟨RX1, TX1, rfl, by decide, by decide, ggX1, tyX1_ok, nmX1, ax_gd (tb1 (List.mem_of_getElem? (i := 161) rfl)) rfl, rfl⟩
theorem imX8_isEnd : Cond.instanceMethod yX8_isEnd ∈ ax_good := ax_gd (tb4 (List.mem_of_getElem? (i := 93) rfl)) rfl
theorem seX8_isEnd : Cond.selects RX8 yX8_isEnd yX8_isEnd ∈ ax_good := ax_gd (tb4 (List.mem_of_getElem? (i := 94) rfl)) rfl
theorem mlX1_40 : ax_MV RX1 40 iX8_isEnd 8 0 := ⟨cbX8_isEnd, ⟨TX8, 9, rfl, by decide⟩, ax_gd (tb4 (List.mem_of_getElem? (i := 164) rfl)) rfl, imX8_isEnd, seX8_isEnd⟩
theorem imX8_isSign : Cond.instanceMethod yX8_isSign ∈ ax_good := ax_gd (tb4 (List.mem_of_getElem? (i := 141) rfl)) rfl
theorem seX8_isSign : Cond.selects RX8 yX8_isSign yX8_isSign ∈ ax_good := ax_gd (tb4 (List.mem_of_getElem? (i := 142) rfl)) rfl
theorem mlX1_46 : ax_MV RX1 46 iX8_isSign 8 1 := ⟨cbX8_isSign, ⟨TX8, 9, rfl, by decide⟩, ax_gd (tb4 (List.mem_of_getElem? (i := 165) rfl)) rfl, imX8_isSign, seX8_isSign⟩
theorem imX8_step : Cond.instanceMethod yX8_step ∈ ax_good := ax_gd (tb4 (List.mem_of_getElem? (i := 109) rfl)) rfl
theorem seX8_step : Cond.selects RX8 yX8_step yX8_step ∈ ax_good := ax_gd (tb4 (List.mem_of_getElem? (i := 110) rfl)) rfl
theorem mlX1_50 : ax_MV RX1 50 iX8_step 8 0 := ⟨cbX8_step, ⟨TX8, 9, rfl, by decide⟩, ax_gd (tb4 (List.mem_of_getElem? (i := 166) rfl)) rfl, imX8_step, seX8_step⟩
theorem imX1_closeAgain : Cond.instanceMethod yX1_closeAgain ∈ ax_good := ax_gd (tb4 (List.mem_of_getElem? (i := 169) rfl)) rfl
theorem seX1_closeAgain : Cond.selects RX1 yX1_closeAgain yX1_closeAgain ∈ ax_good := ax_gd (tbs (pv2 (List.mem_of_getElem? (i := 2) rfl))) rfl
theorem mlX1_53 : ax_MV RX1 53 iX1_closeAgain 1 0 := ⟨cbX1_closeAgain, ⟨TX1, 7, rfl, by decide⟩, ax_gd (tb4 (List.mem_of_getElem? (i := 167) rfl)) rfl, imX1_closeAgain, seX1_closeAgain⟩
theorem imX8_isWord : Cond.instanceMethod yX8_isWord ∈ ax_good := ax_gd (tb4 (List.mem_of_getElem? (i := 101) rfl)) rfl
theorem seX8_isWord : Cond.selects RX8 yX8_isWord yX8_isWord ∈ ax_good := ax_gd (tb4 (List.mem_of_getElem? (i := 102) rfl)) rfl
theorem mlX1_56 : ax_MV RX1 56 iX8_isWord 8 1 := ⟨cbX8_isWord, ⟨TX8, 9, rfl, by decide⟩, ax_gd (tb4 (List.mem_of_getElem? (i := 175) rfl)) rfl, imX8_isWord, seX8_isWord⟩
theorem imX1_readAgain : Cond.instanceMethod yX1_readAgain ∈ ax_good := ax_gd (tb4 (List.mem_of_getElem? (i := 178) rfl)) rfl
theorem seX1_readAgain : Cond.selects RX1 yX1_readAgain yX1_readAgain ∈ ax_good := ax_gd (tbs (pv2 (List.mem_of_getElem? (i := 4) rfl))) rfl
theorem mlX1_59 : ax_MV RX1 59 iX1_readAgain 1 1 := ⟨cbX1_readAgain, ⟨TX1, 7, rfl, by decide⟩, ax_gd (tb4 (List.mem_of_getElem? (i := 176) rfl)) rfl, imX1_readAgain, seX1_readAgain⟩
theorem imX1_readStep : Cond.instanceMethod yX1_readStep ∈ ax_good := ax_gd (tb4 (List.mem_of_getElem? (i := 189) rfl)) rfl
theorem seX1_readStep : Cond.selects RX1 yX1_readStep yX1_readStep ∈ ax_good := ax_gd (tbs (pv2 (List.mem_of_getElem? (i := 5) rfl))) rfl
theorem mlX1_63 : ax_MV RX1 63 iX1_readStep 1 1 := ⟨cbX1_readStep, ⟨TX1, 7, rfl, by decide⟩, ax_gd (tb4 (List.mem_of_getElem? (i := 187) rfl)) rfl, imX1_readStep, seX1_readStep⟩
theorem imX8_fail : Cond.instanceMethod yX8_fail ∈ ax_good := ax_gd (tb4 (List.mem_of_getElem? (i := 105) rfl)) rfl
theorem seX8_fail : Cond.selects RX8 yX8_fail yX8_fail ∈ ax_good := ax_gd (tb4 (List.mem_of_getElem? (i := 106) rfl)) rfl
theorem mlX1_66 : ax_MV RX1 66 iX8_fail 8 1 := ⟨cbX8_fail, ⟨TX8, 9, rfl, by decide⟩, ax_gd (tb4 (List.mem_of_getElem? (i := 180) rfl)) rfl, imX8_fail, seX8_fail⟩
theorem imX8_value : Cond.instanceMethod yX8_value ∈ ax_good := ax_gd (tb4 (List.mem_of_getElem? (i := 125) rfl)) rfl
theorem seX8_value : Cond.selects RX8 yX8_value yX8_value ∈ ax_good := ax_gd (tb4 (List.mem_of_getElem? (i := 126) rfl)) rfl
theorem mlX1_69 : ax_MV RX1 69 iX8_value 8 0 := ⟨cbX8_value, ⟨TX8, 9, rfl, by decide⟩, ax_gd (tb4 (List.mem_of_getElem? (i := 181) rfl)) rfl, imX8_value, seX8_value⟩
theorem imX8_passNumber : Cond.instanceMethod yX8_passNumber ∈ ax_good := ax_gd (tb4 (List.mem_of_getElem? (i := 183) rfl)) rfl
theorem seX8_passNumber : Cond.selects RX8 yX8_passNumber yX8_passNumber ∈ ax_good := ax_gd (tb4 (List.mem_of_getElem? (i := 184) rfl)) rfl
theorem mlX1_73 : ax_MV RX1 73 iX8_passNumber 8 2 := ⟨cbX8_passNumber, ⟨TX8, 9, rfl, by decide⟩, ax_gd (tb4 (List.mem_of_getElem? (i := 182) rfl)) rfl, imX8_passNumber, seX8_passNumber⟩
theorem imX8_pass : Cond.instanceMethod yX8_pass ∈ ax_good := ax_gd (tb4 (List.mem_of_getElem? (i := 149) rfl)) rfl
theorem seX8_pass : Cond.selects RX8 yX8_pass yX8_pass ∈ ax_good := ax_gd (tb4 (List.mem_of_getElem? (i := 150) rfl)) rfl
theorem mlX1_77 : ax_MV RX1 77 iX8_pass 8 2 := ⟨cbX8_pass, ⟨TX8, 9, rfl, by decide⟩, ax_gd (tb4 (List.mem_of_getElem? (i := 186) rfl)) rfl, imX8_pass, seX8_pass⟩
theorem imX1_addStep : Cond.instanceMethod yX1_addStep ∈ ax_good := ax_gd (tb4 (List.mem_of_getElem? (i := 173) rfl)) rfl
theorem seX1_addStep : Cond.selects RX1 yX1_addStep yX1_addStep ∈ ax_good := ax_gd (tbs (pv2 (List.mem_of_getElem? (i := 3) rfl))) rfl
theorem mlX1_80 : ax_MV RX1 80 iX1_addStep 1 3 := ⟨cbX1_addStep, ⟨TX1, 7, rfl, by decide⟩, ax_gd (tb4 (List.mem_of_getElem? (i := 171) rfl)) rfl, imX1_addStep, seX1_addStep⟩
theorem imX8_isAsked : Cond.instanceMethod yX8_isAsked ∈ ax_good := ax_gd (tb4 (List.mem_of_getElem? (i := 129) rfl)) rfl
theorem seX8_isAsked : Cond.selects RX8 yX8_isAsked yX8_isAsked ∈ ax_good := ax_gd (tb4 (List.mem_of_getElem? (i := 130) rfl)) rfl
theorem mlX1_84 : ax_MV RX1 84 iX8_isAsked 8 1 := ⟨cbX8_isAsked, ⟨TX8, 9, rfl, by decide⟩, ax_gd (tb4 (List.mem_of_getElem? (i := 191) rfl)) rfl, imX8_isAsked, seX8_isAsked⟩
theorem mlX1_87 : ax_MS RX1 87 iX1_mostOf 1 ∨ ∃ host, ax_MSN RX1 87 iX1_mostOf host 1 := Or.inl ⟨cbX1_mostOf, ax_gd (tb4 (List.mem_of_getElem? (i := 192) rfl)) rfl, ax_gd (tb4 (List.mem_of_getElem? (i := 193) rfl)) rfl⟩
theorem mlX10_3 : Cond.methodLink RX10 3 objectInit ∈ ax_good := ax_gd (tb2 (List.mem_of_getElem? (i := 103) rfl)) rfl
theorem flX10_9 : ax_FL RX10 9 10 1 6 true := ⟨RX10, TX10, rfl, by decide, by decide, ggX10, tyX10_ok, nmX10, ax_gd (tb2 (List.mem_of_getElem? (i := 106) rfl)) rfl, rfl⟩
theorem flX10_15 : ax_FL RX10 15 10 2 6 true := ⟨RX10, TX10, rfl, by decide, by decide, ggX10, tyX10_ok, nmX10, ax_gd (tb2 (List.mem_of_getElem? (i := 108) rfl)) rfl, rfl⟩
theorem flX10_18 : ax_FL RX10 18 10 3 6 true := ⟨RX10, TX10, rfl, by decide, by decide, ggX10, tyX10_ok, nmX10, ax_gd (tb2 (List.mem_of_getElem? (i := 109) rfl)) rfl, rfl⟩
theorem flX10_21 : ax_FL RX10 21 10 4 6 true := ⟨RX10, TX10, rfl, by decide, by decide, ggX10, tyX10_ok, nmX10, ax_gd (tb2 (List.mem_of_getElem? (i := 110) rfl)) rfl, rfl⟩
theorem flX10_24 : ax_FL RX10 24 10 5 6 true := ⟨RX10, TX10, rfl, by decide, by decide, ggX10, tyX10_ok, nmX10, ax_gd (tb2 (List.mem_of_getElem? (i := 111) rfl)) rfl, rfl⟩
theorem flX10_27 : ax_FL RX10 27 9 6 7 true := ⟨RX9, TX9, rfl, by decide, by decide, ggX9, tyX9_ok, nmX9, ax_gd (tb1 (List.mem_of_getElem? (i := 112) rfl)) rfl, rfl⟩
theorem flX10_33 : ax_FL RX10 33 7 0 8 false := ⟨RX7, TX7, rfl, by decide, by decide, ggX7, tyX7_ok, nmX7, ax_gd (tb1 (List.mem_of_getElem? (i := 47) rfl)) rfl, rfl⟩
theorem flX10_39 : ax_FL RX10 39 7 1 8 false := ⟨RX7, TX7, rfl, by decide, by decide, ggX7, tyX7_ok, nmX7, ax_gd (tb1 (List.mem_of_getElem? (i := 52) rfl)) rfl, rfl⟩
theorem imX10_fewestFrom : Cond.instanceMethod yX10_fewestFrom ∈ ax_good := ax_gd (tb5 (List.mem_of_getElem? (i := 81) rfl)) rfl
theorem seX10_fewestFrom : Cond.selects RX10 yX10_fewestFrom yX10_fewestFrom ∈ ax_good := ax_gd (tbs (pv2 (List.mem_of_getElem? (i := 8) rfl))) rfl
theorem mlX10_43 : ax_MV RX10 43 iX10_fewestFrom 10 2 := ⟨cbX10_fewestFrom, ⟨TX10, 6, rfl, by decide⟩, ax_gd (tb5 (List.mem_of_getElem? (i := 79) rfl)) rfl, imX10_fewestFrom, seX10_fewestFrom⟩
theorem flX10_47 : ax_FL RX10 47 10 0 6 false := ⟨RX10, TX10, rfl, by decide, by decide, ggX10, tyX10_ok, nmX10, ax_gd (tb2 (List.mem_of_getElem? (i := 104) rfl)) rfl, rfl⟩
theorem flX10_50 : ax_FL RX10 50 4 8 9 false := ⟨RX4, TX4, rfl, by decide, by decide, ggX4, tyX4_ok, nmX4, ax_gd (tb1 (List.mem_of_getElem? (i := 215) rfl)) rfl, rfl⟩
theorem imX10_chooseRope : Cond.instanceMethod yX10_chooseRope ∈ ax_good := ax_gd (tb5 (List.mem_of_getElem? (i := 91) rfl)) rfl
theorem seX10_chooseRope : Cond.selects RX10 yX10_chooseRope yX10_chooseRope ∈ ax_good := ax_gd (tbs (pv2 (List.mem_of_getElem? (i := 10) rfl))) rfl
theorem mlX10_55 : ax_MV RX10 55 iX10_chooseRope 10 2 := ⟨cbX10_chooseRope, ⟨TX10, 6, rfl, by decide⟩, ax_gd (tb5 (List.mem_of_getElem? (i := 89) rfl)) rfl, imX10_chooseRope, seX10_chooseRope⟩
theorem flX10_58 : ax_FL RX10 58 4 7 9 true := ⟨RX4, TX4, rfl, by decide, by decide, ggX4, tyX4_ok, nmX4, ax_gd (tb1 (List.mem_of_getElem? (i := 213) rfl)) rfl, rfl⟩
theorem mlX10_61 : ax_MW RX10 61 Lib.Math.max.name Lib.Math.max.code := ⟨ax_gd (tb5 (List.mem_of_getElem? (i := 83) rfl)) rfl, ax_gd (tb3 (List.mem_of_getElem? (i := 138) rfl)) rfl, ax_gd (tb1 (List.mem_of_getElem? (i := 16) rfl)) rfl, ax_gd (by decide +kernel) rfl⟩
theorem imX10_bestWith : Cond.instanceMethod yX10_bestWith ∈ ax_good := ax_gd (tb5 (List.mem_of_getElem? (i := 86) rfl)) rfl
theorem seX10_bestWith : Cond.selects RX10 yX10_bestWith yX10_bestWith ∈ ax_good := ax_gd (tbs (pv2 (List.mem_of_getElem? (i := 9) rfl))) rfl
theorem mlX10_67 : ax_MV RX10 67 iX10_bestWith 10 2 := ⟨cbX10_bestWith, ⟨TX10, 6, rfl, by decide⟩, ax_gd (tb5 (List.mem_of_getElem? (i := 84) rfl)) rfl, imX10_bestWith, seX10_bestWith⟩
theorem mlX10_70 : ax_MW RX10 70 Lib.Math.min.name Lib.Math.min.code := ⟨ax_gd (tb5 (List.mem_of_getElem? (i := 88) rfl)) rfl, ax_gd (tb3 (List.mem_of_getElem? (i := 26) rfl)) rfl, ax_gd (tb1 (List.mem_of_getElem? (i := 16) rfl)) rfl, ax_gd (by decide +kernel) rfl⟩
theorem mlX11_1 : Cond.methodLink RX11 1 objectInit ∈ ax_good := ax_gd (tb1 (List.mem_of_getElem? (i := 27) rfl)) rfl
theorem nlX11_7 : ax_NL RX11 7 9 7 := ⟨RX9, TX9, rfl, by decide, ggX9, tyX9_ok, ax_gd (by decide +kernel) rfl, ax_gd (by decide +kernel) rfl, nI_X9, by decide +kernel⟩
theorem alX11_7 : Cond.classLink RX11 7 RX9 ∈ ax_good := ax_gd (by decide +kernel) rfl
theorem mlX11_9 : ax_MI RX11 9 iX9_init 0 ∨ ∃ host, ax_MIN RX11 9 iX9_init host 0 := Or.inl ⟨cbX9_init, ax_gd (by decide +kernel) rfl, ax_gd (by decide +kernel) rfl, rfl, rfl⟩
theorem flX11_10 : ax_FL RX11 10 11 0 17 true := ⟨RX11, TX11, rfl, by decide, by decide, ggX11, tyX11_ok, nmX11, ax_gd (tb2 (List.mem_of_getElem? (i := 148) rfl)) rfl, rfl⟩
theorem nlX11_16 : ax_NL RX11 16 0 1 := ⟨RX0, TX0, rfl, by decide, ggX0, tyX0_ok, ax_gd (by decide +kernel) rfl, ax_gd (by decide +kernel) rfl, nI_X0, by decide +kernel⟩
theorem mlX11_18 : ax_MI RX11 18 iX0_init 0 ∨ ∃ host, ax_MIN RX11 18 iX0_init host 0 := Or.inr ⟨"RopeMind", cbX0_init, by decide +kernel, ax_gd (by decide +kernel) rfl, rfl, rfl⟩
theorem flX11_19 : ax_FL RX11 19 11 1 17 true := ⟨RX11, TX11, rfl, by decide, by decide, ggX11, tyX11_ok, nmX11, ax_gd (tb2 (List.mem_of_getElem? (i := 149) rfl)) rfl, rfl⟩
theorem nlX11_23 : ax_NL RX11 23 4 9 := ⟨RX4, TX4, rfl, by decide, ggX4, tyX4_ok, ax_gd (by decide +kernel) rfl, ax_gd (by decide +kernel) rfl, nI_X4, by decide +kernel⟩
theorem mlX11_25 : ax_MI RX11 25 iX4_init 0 ∨ ∃ host, ax_MIN RX11 25 iX4_init host 0 := Or.inl ⟨cbX4_init, ax_gd (by decide +kernel) rfl, ax_gd (by decide +kernel) rfl, rfl, rfl⟩
theorem flX11_26 : ax_FL RX11 26 11 2 17 true := ⟨RX11, TX11, rfl, by decide, by decide, ggX11, tyX11_ok, nmX11, ax_gd (tb2 (List.mem_of_getElem? (i := 150) rfl)) rfl, rfl⟩
theorem nlX11_30 : ax_NL RX11 30 8 9 := ⟨RX8, TX8, rfl, by decide, ggX8, tyX8_ok, ax_gd (by decide +kernel) rfl, ax_gd (by decide +kernel) rfl, nI_X8, by decide +kernel⟩
theorem mlX11_32 : ax_MI RX11 32 iX8_init 0 ∨ ∃ host, ax_MIN RX11 32 iX8_init host 0 := Or.inr ⟨"RopeMind", cbX8_init, by decide +kernel, ax_gd (by decide +kernel) rfl, rfl, rfl⟩
theorem flX11_33 : ax_FL RX11 33 11 3 17 true := ⟨RX11, TX11, rfl, by decide, by decide, ggX11, tyX11_ok, nmX11, ax_gd (tb2 (List.mem_of_getElem? (i := 151) rfl)) rfl, rfl⟩
theorem nlX11_37 : ax_NL RX11 37 3 3 := ⟨RX3, TX3, rfl, by decide, ggX3, tyX3_ok, ax_gd (by decide +kernel) rfl, ax_gd (by decide +kernel) rfl, nI_X3, by decide +kernel⟩
theorem mlX11_39 : ax_MI RX11 39 iX3_init 0 ∨ ∃ host, ax_MIN RX11 39 iX3_init host 0 := Or.inr ⟨"RopeMind", cbX3_init, by decide +kernel, ax_gd (by decide +kernel) rfl, rfl, rfl⟩
theorem flX11_40 : ax_FL RX11 40 11 4 17 true := ⟨RX11, TX11, rfl, by decide, by decide, ggX11, tyX11_ok, nmX11, ax_gd (tb2 (List.mem_of_getElem? (i := 152) rfl)) rfl, rfl⟩
theorem nlX11_44 : ax_NL RX11 44 1 7 := ⟨RX1, TX1, rfl, by decide, ggX1, tyX1_ok, ax_gd (by decide +kernel) rfl, ax_gd (by decide +kernel) rfl, nI_X1, by decide +kernel⟩
theorem mlX11_46 : ax_MI RX11 46 iX1_init 0 ∨ ∃ host, ax_MIN RX11 46 iX1_init host 0 := Or.inr ⟨"RopeMind", cbX1_init, by decide +kernel, ax_gd (by decide +kernel) rfl, rfl, rfl⟩
theorem flX11_47 : ax_FL RX11 47 11 5 17 true := ⟨RX11, TX11, rfl, by decide, by decide, ggX11, tyX11_ok, nmX11, ax_gd (tb2 (List.mem_of_getElem? (i := 153) rfl)) rfl, rfl⟩
theorem nlX11_51 : ax_NL RX11 51 2 7 := ⟨RX2, TX2, rfl, by decide, ggX2, tyX2_ok, ax_gd (by decide +kernel) rfl, ax_gd (by decide +kernel) rfl, nI_X2, by decide +kernel⟩
theorem mlX11_53 : ax_MI RX11 53 iX2_init 1 ∨ ∃ host, ax_MIN RX11 53 iX2_init host 1 := Or.inl ⟨cbX2_init, ax_gd (by decide +kernel) rfl, ax_gd (by decide +kernel) rfl, rfl, rfl⟩
theorem flX11_56 : ax_FL RX11 56 11 6 17 true := ⟨RX11, TX11, rfl, by decide, by decide, ggX11, tyX11_ok, nmX11, ax_gd (tb2 (List.mem_of_getElem? (i := 154) rfl)) rfl, rfl⟩
theorem nlX11_60 : ax_NL RX11 60 6 5 := ⟨RX6, TX6, rfl, by decide, ggX6, tyX6_ok, ax_gd (by decide +kernel) rfl, ax_gd (by decide +kernel) rfl, nI_X6, by decide +kernel⟩
theorem mlX11_62 : ax_MI RX11 62 iX6_init 1 ∨ ∃ host, ax_MIN RX11 62 iX6_init host 1 := Or.inl ⟨cbX6_init, ax_gd (by decide +kernel) rfl, ax_gd (by decide +kernel) rfl, rfl, rfl⟩
theorem flX11_65 : ax_FL RX11 65 11 7 17 true := ⟨RX11, TX11, rfl, by decide, by decide, ggX11, tyX11_ok, nmX11, ax_gd (tb2 (List.mem_of_getElem? (i := 155) rfl)) rfl, rfl⟩
theorem nlX11_69 : ax_NL RX11 69 7 8 := ⟨RX7, TX7, rfl, by decide, ggX7, tyX7_ok, ax_gd (by decide +kernel) rfl, ax_gd (by decide +kernel) rfl, nI_X7, by decide +kernel⟩
theorem mlX11_71 : ax_MI RX11 71 iX7_init 0 ∨ ∃ host, ax_MIN RX11 71 iX7_init host 0 := Or.inr ⟨"RopeMind", cbX7_init, by decide +kernel, ax_gd (by decide +kernel) rfl, rfl, rfl⟩
theorem flX11_72 : ax_FL RX11 72 11 8 17 true := ⟨RX11, TX11, rfl, by decide, by decide, ggX11, tyX11_ok, nmX11, ax_gd (tb2 (List.mem_of_getElem? (i := 156) rfl)) rfl, rfl⟩
theorem nlX11_76 : ax_NL RX11 76 10 6 := ⟨RX10, TX10, rfl, by decide, ggX10, tyX10_ok, ax_gd (by decide +kernel) rfl, ax_gd (by decide +kernel) rfl, nI_X10, by decide +kernel⟩
theorem mlX11_78 : ax_MI RX11 78 iX10_init 0 ∨ ∃ host, ax_MIN RX11 78 iX10_init host 0 := Or.inr ⟨"RopeMind", cbX10_init, by decide +kernel, ax_gd (by decide +kernel) rfl, rfl, rfl⟩
theorem flX11_79 : ax_FL RX11 79 11 9 17 true := ⟨RX11, TX11, rfl, by decide, by decide, ggX11, tyX11_ok, nmX11, ax_gd (tb2 (List.mem_of_getElem? (i := 157) rfl)) rfl, rfl⟩
theorem nlX11_83 : ax_NL RX11 83 5 5 := ⟨RX5, TX5, rfl, by decide, ggX5, tyX5_ok, ax_gd (by decide +kernel) rfl, ax_gd (by decide +kernel) rfl, nI_X5, by decide +kernel⟩
theorem mlX11_85 : ax_MI RX11 85 iX5_init 0 ∨ ∃ host, ax_MIN RX11 85 iX5_init host 0 := Or.inr ⟨"RopeMind", cbX5_init, by decide +kernel, ax_gd (by decide +kernel) rfl, rfl, rfl⟩
theorem flX11_86 : ax_FL RX11 86 11 10 17 true := ⟨RX11, TX11, rfl, by decide, by decide, ggX11, tyX11_ok, nmX11, ax_gd (tb2 (List.mem_of_getElem? (i := 158) rfl)) rfl, rfl⟩
theorem flX11_90 : ax_FL RX11 90 11 11 17 true := ⟨RX11, TX11, rfl, by decide, by decide, ggX11, tyX11_ok, nmX11, ax_gd (tb2 (List.mem_of_getElem? (i := 159) rfl)) rfl, rfl⟩
theorem flX11_94 : ax_FL RX11 94 11 14 17 true := ⟨RX11, TX11, rfl, by decide, by decide, ggX11, tyX11_ok, nmX11, ax_gd (tb2 (List.mem_of_getElem? (i := 162) rfl)) rfl, rfl⟩
theorem flX11_97 : ax_FL RX11 97 11 15 17 true := ⟨RX11, TX11, rfl, by decide, by decide, ggX11, tyX11_ok, nmX11, ax_gd (tb2 (List.mem_of_getElem? (i := 163) rfl)) rfl, rfl⟩
theorem flX11_100 : ax_FL RX11 100 11 16 17 true := ⟨RX11, TX11, rfl, by decide, by decide, ggX11, tyX11_ok, nmX11, ax_gd (tb2 (List.mem_of_getElem? (i := 164) rfl)) rfl, rfl⟩
theorem flX11_103 : ax_FL RX11 103 9 2 7 false := ⟨RX9, TX9, rfl, by decide, by decide, ggX9, tyX9_ok, nmX9, ax_gd (tb1 (List.mem_of_getElem? (i := 100) rfl)) rfl, rfl⟩
theorem flX11_107 : ax_FL RX11 107 11 12 17 false := ⟨RX11, TX11, rfl, by decide, by decide, ggX11, tyX11_ok, nmX11, ax_gd (tb2 (List.mem_of_getElem? (i := 160) rfl)) rfl, rfl⟩
theorem imX9_freeNumber : Cond.instanceMethod yX9_freeNumber ∈ ax_good := ax_gd (tb2 (List.mem_of_getElem? (i := 209) rfl)) rfl
theorem seX9_freeNumber : Cond.selects RX9 yX9_freeNumber yX9_freeNumber ∈ ax_good := ax_gd (tb2 (List.mem_of_getElem? (i := 210) rfl)) rfl
theorem mlX11_110 : ax_MV RX11 110 iX9_freeNumber 9 0 := ⟨cbX9_freeNumber, ⟨TX9, 7, rfl, by decide⟩, ax_gd (tb2 (List.mem_of_getElem? (i := 208) rfl)) rfl, imX9_freeNumber, seX9_freeNumber⟩
theorem mlX11_114 : ax_MS RX11 114 iX11_isIn 2 ∨ ∃ host, ax_MSN RX11 114 iX11_isIn host 2 := Or.inl ⟨cbX11_isIn, ax_gd (tb2 (List.mem_of_getElem? (i := 212) rfl)) rfl, ax_gd (tb2 (List.mem_of_getElem? (i := 213) rfl)) rfl⟩
theorem flX11_118 : ax_FL RX11 118 9 6 7 true := ⟨RX9, TX9, rfl, by decide, by decide, ggX9, tyX9_ok, nmX9, ax_gd (tb1 (List.mem_of_getElem? (i := 113) rfl)) rfl, rfl⟩
theorem flX11_122 : ax_FL RX11 122 9 0 7 false := ⟨RX9, TX9, rfl, by decide, by decide, ggX9, tyX9_ok, nmX9, ax_gd (tb1 (List.mem_of_getElem? (i := 96) rfl)) rfl, rfl⟩
theorem imX7_begin : Cond.instanceMethod yX7_begin ∈ ax_good := ax_gd (tb2 (List.mem_of_getElem? (i := 216) rfl)) rfl
theorem seX7_begin : Cond.selects RX7 yX7_begin yX7_begin ∈ ax_good := ax_gd (tb2 (List.mem_of_getElem? (i := 217) rfl)) rfl
theorem mlX11_125 : ax_MV RX11 125 iX7_begin 7 3 := ⟨cbX7_begin, ⟨TX7, 8, rfl, by decide⟩, ax_gd (tb2 (List.mem_of_getElem? (i := 215) rfl)) rfl, imX7_begin, seX7_begin⟩
theorem flX11_129 : ax_FL RX11 129 9 1 7 false := ⟨RX9, TX9, rfl, by decide, by decide, ggX9, tyX9_ok, nmX9, ax_gd (tb1 (List.mem_of_getElem? (i := 99) rfl)) rfl, rfl⟩
theorem flX11_132 : ax_FL RX11 132 9 4 7 true := ⟨RX9, TX9, rfl, by decide, by decide, ggX9, tyX9_ok, nmX9, ax_gd (tb1 (List.mem_of_getElem? (i := 107) rfl)) rfl, rfl⟩
theorem flX11_136 : ax_FL RX11 136 9 5 7 true := ⟨RX9, TX9, rfl, by decide, by decide, ggX9, tyX9_ok, nmX9, ax_gd (tb1 (List.mem_of_getElem? (i := 109) rfl)) rfl, rfl⟩
theorem imX9_ropeAt : Cond.instanceMethod yX9_ropeAt ∈ ax_good := ax_gd (tb2 (List.mem_of_getElem? (i := 229) rfl)) rfl
theorem seX9_ropeAt : Cond.selects RX9 yX9_ropeAt yX9_ropeAt ∈ ax_good := ax_gd (tb2 (List.mem_of_getElem? (i := 230) rfl)) rfl
theorem mlX11_139 : ax_MV RX11 139 iX9_ropeAt 9 1 := ⟨cbX9_ropeAt, ⟨TX9, 7, rfl, by decide⟩, ax_gd (tb2 (List.mem_of_getElem? (i := 228) rfl)) rfl, imX9_ropeAt, seX9_ropeAt⟩
theorem imX7_isUntied : Cond.instanceMethod yX7_isUntied ∈ ax_good := ax_gd (tb2 (List.mem_of_getElem? (i := 234) rfl)) rfl
theorem seX7_isUntied : Cond.selects RX7 yX7_isUntied yX7_isUntied ∈ ax_good := ax_gd (tb2 (List.mem_of_getElem? (i := 235) rfl)) rfl
theorem mlX11_143 : ax_MV RX11 143 iX7_isUntied 7 1 := ⟨cbX7_isUntied, ⟨TX7, 8, rfl, by decide⟩, ax_gd (tb2 (List.mem_of_getElem? (i := 233) rfl)) rfl, imX7_isUntied, seX7_isUntied⟩
theorem imX11_keepPast : Cond.instanceMethod yX11_keepPast ∈ ax_good := ax_gd (tb2 (List.mem_of_getElem? (i := 239) rfl)) rfl
theorem seX11_keepPast : Cond.selects RX11 yX11_keepPast yX11_keepPast ∈ ax_good := ax_gd (tbs (pv1 (List.mem_of_getElem? (i := 0) rfl))) rfl
theorem mlX11_147 : ax_MV RX11 147 iX11_keepPast 11 0 := ⟨cbX11_keepPast, ⟨TX11, 17, rfl, by decide⟩, ax_gd (tb2 (List.mem_of_getElem? (i := 237) rfl)) rfl, imX11_keepPast, seX11_keepPast⟩
theorem imX11_tieByHand : Cond.instanceMethod yX11_tieByHand ∈ ax_good := ax_gd (tb3 (List.mem_of_getElem? (i := 15) rfl)) rfl
theorem seX11_tieByHand : Cond.selects RX11 yX11_tieByHand yX11_tieByHand ∈ ax_good := ax_gd (tbs (pv1 (List.mem_of_getElem? (i := 1) rfl))) rfl
theorem mlX11_150 : ax_MV RX11 150 iX11_tieByHand 11 4 := ⟨cbX11_tieByHand, ⟨TX11, 17, rfl, by decide⟩, ax_gd (tb3 (List.mem_of_getElem? (i := 13) rfl)) rfl, imX11_tieByHand, seX11_tieByHand⟩
theorem imX7_isTied : Cond.instanceMethod yX7_isTied ∈ ax_good := ax_gd (tb3 (List.mem_of_getElem? (i := 37) rfl)) rfl
theorem seX7_isTied : Cond.selects RX7 yX7_isTied yX7_isTied ∈ ax_good := ax_gd (tb3 (List.mem_of_getElem? (i := 38) rfl)) rfl
theorem mlX11_154 : ax_MV RX11 154 iX7_isTied 7 1 := ⟨cbX7_isTied, ⟨TX7, 8, rfl, by decide⟩, ax_gd (tb3 (List.mem_of_getElem? (i := 36) rfl)) rfl, imX7_isTied, seX7_isTied⟩
theorem flX11_157 : ax_FL RX11 157 7 5 8 true := ⟨RX7, TX7, rfl, by decide, by decide, ggX7, tyX7_ok, nmX7, ax_gd (tb1 (List.mem_of_getElem? (i := 67) rfl)) rfl, rfl⟩
theorem imX11_pullNow : Cond.instanceMethod yX11_pullNow ∈ ax_good := ax_gd (tb3 (List.mem_of_getElem? (i := 46) rfl)) rfl
theorem seX11_pullNow : Cond.selects RX11 yX11_pullNow yX11_pullNow ∈ ax_good := ax_gd (tbs (pv1 (List.mem_of_getElem? (i := 2) rfl))) rfl
theorem mlX11_160 : ax_MV RX11 160 iX11_pullNow 11 2 := ⟨cbX11_pullNow, ⟨TX11, 17, rfl, by decide⟩, ax_gd (tb3 (List.mem_of_getElem? (i := 44) rfl)) rfl, imX11_pullNow, seX11_pullNow⟩
theorem flX11_163 : ax_FL RX11 163 6 3 5 false := ⟨RX6, TX6, rfl, by decide, by decide, ggX6, tyX6_ok, nmX6, ax_gd (tb2 (List.mem_of_getElem? (i := 83) rfl)) rfl, rfl⟩
theorem imX7_wetTo : Cond.instanceMethod yX7_wetTo ∈ ax_good := ax_gd (tb3 (List.mem_of_getElem? (i := 121) rfl)) rfl
theorem seX7_wetTo : Cond.selects RX7 yX7_wetTo yX7_wetTo ∈ ax_good := ax_gd (tb3 (List.mem_of_getElem? (i := 122) rfl)) rfl
theorem mlX11_166 : ax_MV RX11 166 iX7_wetTo 7 2 := ⟨cbX7_wetTo, ⟨TX7, 8, rfl, by decide⟩, ax_gd (tb3 (List.mem_of_getElem? (i := 120) rfl)) rfl, imX7_wetTo, seX7_wetTo⟩
theorem flX11_170 : ax_FL RX11 170 7 1 8 false := ⟨RX7, TX7, rfl, by decide, by decide, ggX7, tyX7_ok, nmX7, ax_gd (tb1 (List.mem_of_getElem? (i := 55) rfl)) rfl, rfl⟩
theorem imX9_part : Cond.instanceMethod yX9_part ∈ ax_good := ax_gd (tb3 (List.mem_of_getElem? (i := 99) rfl)) rfl
theorem seX9_part : Cond.selects RX9 yX9_part yX9_part ∈ ax_good := ax_gd (tb3 (List.mem_of_getElem? (i := 100) rfl)) rfl
theorem mlX11_173 : ax_MV RX11 173 iX9_part 9 2 := ⟨cbX9_part, ⟨TX9, 7, rfl, by decide⟩, ax_gd (tb3 (List.mem_of_getElem? (i := 98) rfl)) rfl, imX9_part, seX9_part⟩
theorem imX0_write : Cond.instanceMethod yX0_write ∈ ax_good := ax_gd (tb3 (List.mem_of_getElem? (i := 29) rfl)) rfl
theorem seX0_write : Cond.selects RX0 yX0_write yX0_write ∈ ax_good := ax_gd (tb3 (List.mem_of_getElem? (i := 30) rfl)) rfl
theorem mlX11_177 : ax_MV RX11 177 iX0_write 0 6 := ⟨cbX0_write, ⟨TX0, 1, rfl, by decide⟩, ax_gd (tb3 (List.mem_of_getElem? (i := 28) rfl)) rfl, imX0_write, seX0_write⟩
theorem imX7_append : Cond.instanceMethod yX7_append ∈ ax_good := ax_gd (tb3 (List.mem_of_getElem? (i := 134) rfl)) rfl
theorem seX7_append : Cond.selects RX7 yX7_append yX7_append ∈ ax_good := ax_gd (tb3 (List.mem_of_getElem? (i := 135) rfl)) rfl
theorem mlX11_181 : ax_MV RX11 181 iX7_append 7 1 := ⟨cbX7_append, ⟨TX7, 8, rfl, by decide⟩, ax_gd (tb3 (List.mem_of_getElem? (i := 133) rfl)) rfl, imX7_append, seX7_append⟩
theorem flX11_185 : ax_FL RX11 185 7 0 8 false := ⟨RX7, TX7, rfl, by decide, by decide, ggX7, tyX7_ok, nmX7, ax_gd (tb1 (List.mem_of_getElem? (i := 49) rfl)) rfl, rfl⟩
theorem flX11_189 : ax_FL RX11 189 7 2 8 false := ⟨RX7, TX7, rfl, by decide, by decide, ggX7, tyX7_ok, nmX7, ax_gd (tb1 (List.mem_of_getElem? (i := 57) rfl)) rfl, rfl⟩
theorem imX11_passDay : Cond.instanceMethod yX11_passDay ∈ ax_good := ax_gd (tb3 (List.mem_of_getElem? (i := 154) rfl)) rfl
theorem seX11_passDay : Cond.selects RX11 yX11_passDay yX11_passDay ∈ ax_good := ax_gd (tbs (pv1 (List.mem_of_getElem? (i := 7) rfl))) rfl
theorem mlX11_192 : ax_MV RX11 192 iX11_passDay 11 0 := ⟨cbX11_passDay, ⟨TX11, 17, rfl, by decide⟩, ax_gd (tb3 (List.mem_of_getElem? (i := 152) rfl)) rfl, imX11_passDay, seX11_passDay⟩
theorem flX11_195 : ax_FL RX11 195 8 1 9 false := ⟨RX8, TX8, rfl, by decide, by decide, ggX8, tyX8_ok, nmX8, ax_gd (tb2 (List.mem_of_getElem? (i := 7) rfl)) rfl, rfl⟩
theorem imX8_feedNumber : Cond.instanceMethod yX8_feedNumber ∈ ax_good := ax_gd (tb3 (List.mem_of_getElem? (i := 180) rfl)) rfl
theorem seX8_feedNumber : Cond.selects RX8 yX8_feedNumber yX8_feedNumber ∈ ax_good := ax_gd (tb3 (List.mem_of_getElem? (i := 181) rfl)) rfl
theorem mlX11_196 : ax_MV RX11 196 iX8_feedNumber 8 1 := ⟨cbX8_feedNumber, ⟨TX8, 9, rfl, by decide⟩, ax_gd (tb3 (List.mem_of_getElem? (i := 179) rfl)) rfl, imX8_feedNumber, seX8_feedNumber⟩
theorem flX11_200 : ax_FL RX11 200 8 2 9 false := ⟨RX8, TX8, rfl, by decide, by decide, ggX8, tyX8_ok, nmX8, ax_gd (tb2 (List.mem_of_getElem? (i := 8) rfl)) rfl, rfl⟩
theorem flX11_203 : ax_FL RX11 203 8 3 9 false := ⟨RX8, TX8, rfl, by decide, by decide, ggX8, tyX8_ok, nmX8, ax_gd (tb2 (List.mem_of_getElem? (i := 11) rfl)) rfl, rfl⟩
theorem imX8_scan : Cond.instanceMethod yX8_scan ∈ ax_good := ax_gd (tb3 (List.mem_of_getElem? (i := 195) rfl)) rfl
theorem seX8_scan : Cond.selects RX8 yX8_scan yX8_scan ∈ ax_good := ax_gd (tb3 (List.mem_of_getElem? (i := 196) rfl)) rfl
theorem mlX11_212 : ax_MV RX11 212 iX8_scan 8 1 := ⟨cbX8_scan, ⟨TX8, 9, rfl, by decide⟩, ax_gd (tb3 (List.mem_of_getElem? (i := 194) rfl)) rfl, imX8_scan, seX8_scan⟩
theorem imX3_readAll : Cond.instanceMethod yX3_readAll ∈ ax_good := ax_gd (tb4 (List.mem_of_getElem? (i := 89) rfl)) rfl
theorem seX3_readAll : Cond.selects RX3 yX3_readAll yX3_readAll ∈ ax_good := ax_gd (tb4 (List.mem_of_getElem? (i := 90) rfl)) rfl
theorem mlX11_216 : ax_MV RX11 216 iX3_readAll 3 1 := ⟨cbX3_readAll, ⟨TX3, 3, rfl, by decide⟩, ax_gd (tb4 (List.mem_of_getElem? (i := 88) rfl)) rfl, imX3_readAll, seX3_readAll⟩
theorem flX11_220 : ax_FL RX11 220 4 0 9 true := ⟨RX4, TX4, rfl, by decide, by decide, ggX4, tyX4_ok, nmX4, ax_gd (tb1 (List.mem_of_getElem? (i := 197) rfl)) rfl, rfl⟩
theorem imX3_copyFrom : Cond.instanceMethod yX3_copyFrom ∈ ax_good := ax_gd (tb4 (List.mem_of_getElem? (i := 155) rfl)) rfl
theorem seX3_copyFrom : Cond.selects RX3 yX3_copyFrom yX3_copyFrom ∈ ax_good := ax_gd (tb4 (List.mem_of_getElem? (i := 156) rfl)) rfl
theorem mlX11_224 : ax_MV RX11 224 iX3_copyFrom 3 1 := ⟨cbX3_copyFrom, ⟨TX3, 3, rfl, by decide⟩, ax_gd (tb4 (List.mem_of_getElem? (i := 154) rfl)) rfl, imX3_copyFrom, seX3_copyFrom⟩
theorem flX11_228 : ax_FL RX11 228 3 0 3 false := ⟨RX3, TX3, rfl, by decide, by decide, ggX3, tyX3_ok, nmX3, ax_gd (tb1 (List.mem_of_getElem? (i := 185) rfl)) rfl, rfl⟩
theorem imX1_readAll : Cond.instanceMethod yX1_readAll ∈ ax_good := ax_gd (tb4 (List.mem_of_getElem? (i := 161) rfl)) rfl
theorem seX1_readAll : Cond.selects RX1 yX1_readAll yX1_readAll ∈ ax_good := ax_gd (tb4 (List.mem_of_getElem? (i := 162) rfl)) rfl
theorem mlX11_233 : ax_MV RX11 233 iX1_readAll 1 1 := ⟨cbX1_readAll, ⟨TX1, 7, rfl, by decide⟩, ax_gd (tb4 (List.mem_of_getElem? (i := 160) rfl)) rfl, imX1_readAll, seX1_readAll⟩
theorem flX11_234 : ax_FL RX11 234 4 1 9 true := ⟨RX4, TX4, rfl, by decide, by decide, ggX4, tyX4_ok, nmX4, ax_gd (tb1 (List.mem_of_getElem? (i := 199) rfl)) rfl, rfl⟩
theorem imX1_copyFrom : Cond.instanceMethod yX1_copyFrom ∈ ax_good := ax_gd (tb4 (List.mem_of_getElem? (i := 196) rfl)) rfl
theorem seX1_copyFrom : Cond.selects RX1 yX1_copyFrom yX1_copyFrom ∈ ax_good := ax_gd (tb4 (List.mem_of_getElem? (i := 197) rfl)) rfl
theorem mlX11_237 : ax_MV RX11 237 iX1_copyFrom 1 1 := ⟨cbX1_copyFrom, ⟨TX1, 7, rfl, by decide⟩, ax_gd (tb4 (List.mem_of_getElem? (i := 195) rfl)) rfl, imX1_copyFrom, seX1_copyFrom⟩
theorem flX11_240 : ax_FL RX11 240 1 0 7 false := ⟨RX1, TX1, rfl, by decide, by decide, ggX1, tyX1_ok, nmX1, ax_gd (tb1 (List.mem_of_getElem? (i := 154) rfl)) rfl, rfl⟩
theorem imX4_readLetters : Cond.instanceMethod yX4_readLetters ∈ ax_good := ax_gd (tb4 (List.mem_of_getElem? (i := 201) rfl)) rfl
theorem seX4_readLetters : Cond.selects RX4 yX4_readLetters yX4_readLetters ∈ ax_good := ax_gd (tb4 (List.mem_of_getElem? (i := 202) rfl)) rfl
theorem mlX11_243 : ax_MV RX11 243 iX4_readLetters 4 2 := ⟨cbX4_readLetters, ⟨TX4, 9, rfl, by decide⟩, ax_gd (tb4 (List.mem_of_getElem? (i := 200) rfl)) rfl, imX4_readLetters, seX4_readLetters⟩
theorem imX1_restDays : Cond.instanceMethod yX1_restDays ∈ ax_good := ax_gd (tb4 (List.mem_of_getElem? (i := 222) rfl)) rfl
theorem seX1_restDays : Cond.selects RX1 yX1_restDays yX1_restDays ∈ ax_good := ax_gd (tb4 (List.mem_of_getElem? (i := 223) rfl)) rfl
theorem mlX11_247 : ax_MV RX11 247 iX1_restDays 1 0 := ⟨cbX1_restDays, ⟨TX1, 7, rfl, by decide⟩, ax_gd (tb4 (List.mem_of_getElem? (i := 221) rfl)) rfl, imX1_restDays, seX1_restDays⟩
theorem imX11_doStep : Cond.instanceMethod yX11_doStep ∈ ax_good := ax_gd (tb4 (List.mem_of_getElem? (i := 227) rfl)) rfl
theorem seX11_doStep : Cond.selects RX11 yX11_doStep yX11_doStep ∈ ax_good := ax_gd (tbs (pv2 (List.mem_of_getElem? (i := 6) rfl))) rfl
theorem mlX11_250 : ax_MV RX11 250 iX11_doStep 11 3 := ⟨cbX11_doStep, ⟨TX11, 17, rfl, by decide⟩, ax_gd (tb4 (List.mem_of_getElem? (i := 225) rfl)) rfl, imX11_doStep, seX11_doStep⟩
theorem flX11_254 : ax_FL RX11 254 7 3 8 false := ⟨RX7, TX7, rfl, by decide, by decide, ggX7, tyX7_ok, nmX7, ax_gd (tb1 (List.mem_of_getElem? (i := 60) rfl)) rfl, rfl⟩
theorem flX11_257 : ax_FL RX11 257 7 4 8 false := ⟨RX7, TX7, rfl, by decide, by decide, ggX7, tyX7_ok, nmX7, ax_gd (tb1 (List.mem_of_getElem? (i := 63) rfl)) rfl, rfl⟩
theorem imX7_tiesInAll : Cond.instanceMethod yX7_tiesInAll ∈ ax_good := ax_gd (tb3 (List.mem_of_getElem? (i := 74) rfl)) rfl
theorem seX7_tiesInAll : Cond.selects RX7 yX7_tiesInAll yX7_tiesInAll ∈ ax_good := ax_gd (tb3 (List.mem_of_getElem? (i := 75) rfl)) rfl
theorem mlX11_260 : ax_MV RX11 260 iX7_tiesInAll 7 0 := ⟨cbX7_tiesInAll, ⟨TX7, 8, rfl, by decide⟩, ax_gd (tb4 (List.mem_of_getElem? (i := 233) rfl)) rfl, imX7_tiesInAll, seX7_tiesInAll⟩
theorem imX7_habitsInAll : Cond.instanceMethod yX7_habitsInAll ∈ ax_good := ax_gd (tb4 (List.mem_of_getElem? (i := 235) rfl)) rfl
theorem seX7_habitsInAll : Cond.selects RX7 yX7_habitsInAll yX7_habitsInAll ∈ ax_good := ax_gd (tb4 (List.mem_of_getElem? (i := 236) rfl)) rfl
theorem mlX11_263 : ax_MV RX11 263 iX7_habitsInAll 7 0 := ⟨cbX7_habitsInAll, ⟨TX7, 8, rfl, by decide⟩, ax_gd (tb4 (List.mem_of_getElem? (i := 234) rfl)) rfl, imX7_habitsInAll, seX7_habitsInAll⟩
theorem imX7_callAt : Cond.instanceMethod yX7_callAt ∈ ax_good := ax_gd (tb3 (List.mem_of_getElem? (i := 57) rfl)) rfl
theorem seX7_callAt : Cond.selects RX7 yX7_callAt yX7_callAt ∈ ax_good := ax_gd (tb3 (List.mem_of_getElem? (i := 58) rfl)) rfl
theorem mlX11_266 : ax_MV RX11 266 iX7_callAt 7 1 := ⟨cbX7_callAt, ⟨TX7, 8, rfl, by decide⟩, ax_gd (tb5 (List.mem_of_getElem? (i := 3) rfl)) rfl, imX7_callAt, seX7_callAt⟩
theorem imX2_needOf : Cond.instanceMethod yX2_needOf ∈ ax_good := ax_gd (tb3 (List.mem_of_getElem? (i := 61) rfl)) rfl
theorem seX2_needOf : Cond.selects RX2 yX2_needOf yX2_needOf ∈ ax_good := ax_gd (tb3 (List.mem_of_getElem? (i := 62) rfl)) rfl
theorem mlX11_270 : ax_MV RX11 270 iX2_needOf 2 4 := ⟨cbX2_needOf, ⟨TX2, 7, rfl, by decide⟩, ax_gd (tb5 (List.mem_of_getElem? (i := 4) rfl)) rfl, imX2_needOf, seX2_needOf⟩
theorem imX2_strengthOf : Cond.instanceMethod yX2_strengthOf ∈ ax_good := ax_gd (tb3 (List.mem_of_getElem? (i := 90) rfl)) rfl
theorem seX2_strengthOf : Cond.selects RX2 yX2_strengthOf yX2_strengthOf ∈ ax_good := ax_gd (tb3 (List.mem_of_getElem? (i := 91) rfl)) rfl
theorem mlX11_274 : ax_MV RX11 274 iX2_strengthOf 2 3 := ⟨cbX2_strengthOf, ⟨TX2, 7, rfl, by decide⟩, ax_gd (tb5 (List.mem_of_getElem? (i := 5) rfl)) rfl, imX2_strengthOf, seX2_strengthOf⟩
theorem flX11_278 : ax_FL RX11 278 7 6 8 true := ⟨RX7, TX7, rfl, by decide, by decide, ggX7, tyX7_ok, nmX7, ax_gd (tb1 (List.mem_of_getElem? (i := 70) rfl)) rfl, rfl⟩
theorem flX11_281 : ax_FL RX11 281 7 7 8 true := ⟨RX7, TX7, rfl, by decide, by decide, ggX7, tyX7_ok, nmX7, ax_gd (tb1 (List.mem_of_getElem? (i := 74) rfl)) rfl, rfl⟩
theorem imX2_lossOf : Cond.instanceMethod yX2_lossOf ∈ ax_good := ax_gd (tb3 (List.mem_of_getElem? (i := 161) rfl)) rfl
theorem seX2_lossOf : Cond.selects RX2 yX2_lossOf yX2_lossOf ∈ ax_good := ax_gd (tb3 (List.mem_of_getElem? (i := 162) rfl)) rfl
theorem mlX11_284 : ax_MV RX11 284 iX2_lossOf 2 4 := ⟨cbX2_lossOf, ⟨TX2, 7, rfl, by decide⟩, ax_gd (tb5 (List.mem_of_getElem? (i := 10) rfl)) rfl, imX2_lossOf, seX2_lossOf⟩
theorem flX11_287 : ax_FL RX11 287 9 3 7 false := ⟨RX9, TX9, rfl, by decide, by decide, ggX9, tyX9_ok, nmX9, ax_gd (tb1 (List.mem_of_getElem? (i := 104) rfl)) rfl, rfl⟩
theorem mlX11_288 : ax_MV RX11 288 iX0_entry 0 2 := ⟨cbX0_entry, ⟨TX0, 1, rfl, by decide⟩, ax_gd (tb5 (List.mem_of_getElem? (i := 15) rfl)) rfl, imX0_entry, seX0_entry⟩
theorem imX7_copyFrom : Cond.instanceMethod yX7_copyFrom ∈ ax_good := ax_gd (tb3 (List.mem_of_getElem? (i := 9) rfl)) rfl
theorem seX7_copyFrom : Cond.selects RX7 yX7_copyFrom yX7_copyFrom ∈ ax_good := ax_gd (tb3 (List.mem_of_getElem? (i := 10) rfl)) rfl
theorem mlX11_291 : ax_MV RX11 291 iX7_copyFrom 7 1 := ⟨cbX7_copyFrom, ⟨TX7, 8, rfl, by decide⟩, ax_gd (tb5 (List.mem_of_getElem? (i := 23) rfl)) rfl, imX7_copyFrom, seX7_copyFrom⟩
theorem imX6_tieAll : Cond.instanceMethod yX6_tieAll ∈ ax_good := ax_gd (tb3 (List.mem_of_getElem? (i := 49) rfl)) rfl
theorem seX6_tieAll : Cond.selects RX6 yX6_tieAll yX6_tieAll ∈ ax_good := ax_gd (tb3 (List.mem_of_getElem? (i := 50) rfl)) rfl
theorem mlX11_293 : ax_MV RX11 293 iX6_tieAll 6 3 := ⟨cbX6_tieAll, ⟨TX6, 5, rfl, by decide⟩, ax_gd (tb3 (List.mem_of_getElem? (i := 48) rfl)) rfl, imX6_tieAll, seX6_tieAll⟩
theorem flX11_297 : ax_FL RX11 297 6 1 5 true := ⟨RX6, TX6, rfl, by decide, by decide, ggX6, tyX6_ok, nmX6, ax_gd (tb2 (List.mem_of_getElem? (i := 79) rfl)) rfl, rfl⟩
theorem flX11_300 : ax_FL RX11 300 6 2 5 true := ⟨RX6, TX6, rfl, by decide, by decide, ggX6, tyX6_ok, nmX6, ax_gd (tb2 (List.mem_of_getElem? (i := 81) rfl)) rfl, rfl⟩
theorem imX2_weakestBelow : Cond.instanceMethod yX2_weakestBelow ∈ ax_good := ax_gd (tb3 (List.mem_of_getElem? (i := 86) rfl)) rfl
theorem seX2_weakestBelow : Cond.selects RX2 yX2_weakestBelow yX2_weakestBelow ∈ ax_good := ax_gd (tb3 (List.mem_of_getElem? (i := 87) rfl)) rfl
theorem mlX11_303 : ax_MV RX11 303 iX2_weakestBelow 2 3 := ⟨cbX2_weakestBelow, ⟨TX2, 7, rfl, by decide⟩, ax_gd (tb3 (List.mem_of_getElem? (i := 85) rfl)) rfl, imX2_weakestBelow, seX2_weakestBelow⟩
theorem imX6_tiesFirst : Cond.instanceMethod yX6_tiesFirst ∈ ax_good := ax_gd (tb5 (List.mem_of_getElem? (i := 33) rfl)) rfl
theorem seX6_tiesFirst : Cond.selects RX6 yX6_tiesFirst yX6_tiesFirst ∈ ax_good := ax_gd (tb5 (List.mem_of_getElem? (i := 34) rfl)) rfl
theorem mlX11_306 : ax_MV RX11 306 iX6_tiesFirst 6 5 := ⟨cbX6_tiesFirst, ⟨TX6, 5, rfl, by decide⟩, ax_gd (tb5 (List.mem_of_getElem? (i := 32) rfl)) rfl, imX6_tiesFirst, seX6_tiesFirst⟩
theorem imX7_addHabit : Cond.instanceMethod yX7_addHabit ∈ ax_good := ax_gd (tb3 (List.mem_of_getElem? (i := 22) rfl)) rfl
theorem seX7_addHabit : Cond.selects RX7 yX7_addHabit yX7_addHabit ∈ ax_good := ax_gd (tb3 (List.mem_of_getElem? (i := 23) rfl)) rfl
theorem mlX11_310 : ax_MV RX11 310 iX7_addHabit 7 4 := ⟨cbX7_addHabit, ⟨TX7, 8, rfl, by decide⟩, ax_gd (tb5 (List.mem_of_getElem? (i := 36) rfl)) rfl, imX7_addHabit, seX7_addHabit⟩
theorem flX11_313 : ax_FL RX11 313 4 6 9 false := ⟨RX4, TX4, rfl, by decide, by decide, ggX4, tyX4_ok, nmX4, ax_gd (tb1 (List.mem_of_getElem? (i := 211) rfl)) rfl, rfl⟩
theorem flX11_316 : ax_FL RX11 316 4 4 9 true := ⟨RX4, TX4, rfl, by decide, by decide, ggX4, tyX4_ok, nmX4, ax_gd (tb1 (List.mem_of_getElem? (i := 205) rfl)) rfl, rfl⟩
theorem flX11_319 : ax_FL RX11 319 4 5 9 true := ⟨RX4, TX4, rfl, by decide, by decide, ggX4, tyX4_ok, nmX4, ax_gd (tb1 (List.mem_of_getElem? (i := 208) rfl)) rfl, rfl⟩
theorem imX2_findPasts : Cond.instanceMethod yX2_findPasts ∈ ax_good := ax_gd (tb5 (List.mem_of_getElem? (i := 46) rfl)) rfl
theorem seX2_findPasts : Cond.selects RX2 yX2_findPasts yX2_findPasts ∈ ax_good := ax_gd (tb5 (List.mem_of_getElem? (i := 47) rfl)) rfl
theorem mlX11_322 : ax_MV RX11 322 iX2_findPasts 2 3 := ⟨cbX2_findPasts, ⟨TX2, 7, rfl, by decide⟩, ax_gd (tb5 (List.mem_of_getElem? (i := 45) rfl)) rfl, imX2_findPasts, seX2_findPasts⟩
theorem flX11_325 : ax_FL RX11 325 2 1 7 false := ⟨RX2, TX2, rfl, by decide, by decide, ggX2, tyX2_ok, nmX2, ax_gd (tb2 (List.mem_of_getElem? (i := 48) rfl)) rfl, rfl⟩
theorem flX11_328 : ax_FL RX11 328 2 2 7 false := ⟨RX2, TX2, rfl, by decide, by decide, ggX2, tyX2_ok, nmX2, ax_gd (tb2 (List.mem_of_getElem? (i := 50) rfl)) rfl, rfl⟩
theorem flX11_331 : ax_FL RX11 331 2 3 7 false := ⟨RX2, TX2, rfl, by decide, by decide, ggX2, tyX2_ok, nmX2, ax_gd (tb2 (List.mem_of_getElem? (i := 52) rfl)) rfl, rfl⟩
theorem imX2_tellingForce : Cond.instanceMethod yX2_tellingForce ∈ ax_good := ax_gd (tb5 (List.mem_of_getElem? (i := 56) rfl)) rfl
theorem seX2_tellingForce : Cond.selects RX2 yX2_tellingForce yX2_tellingForce ∈ ax_good := ax_gd (tb5 (List.mem_of_getElem? (i := 57) rfl)) rfl
theorem mlX11_334 : ax_MV RX11 334 iX2_tellingForce 2 0 := ⟨cbX2_tellingForce, ⟨TX2, 7, rfl, by decide⟩, ax_gd (tb5 (List.mem_of_getElem? (i := 55) rfl)) rfl, imX2_tellingForce, seX2_tellingForce⟩
theorem flX11_337 : ax_FL RX11 337 4 8 9 false := ⟨RX4, TX4, rfl, by decide, by decide, ggX4, tyX4_ok, nmX4, ax_gd (tb1 (List.mem_of_getElem? (i := 217) rfl)) rfl, rfl⟩
theorem flX11_340 : ax_FL RX11 340 4 7 9 true := ⟨RX4, TX4, rfl, by decide, by decide, ggX4, tyX4_ok, nmX4, ax_gd (tb1 (List.mem_of_getElem? (i := 214) rfl)) rfl, rfl⟩
theorem imX10_plan : Cond.instanceMethod yX10_plan ∈ ax_good := ax_gd (tb5 (List.mem_of_getElem? (i := 76) rfl)) rfl
theorem seX10_plan : Cond.selects RX10 yX10_plan yX10_plan ∈ ax_good := ax_gd (tb5 (List.mem_of_getElem? (i := 77) rfl)) rfl
theorem mlX11_343 : ax_MV RX11 343 iX10_plan 10 2 := ⟨cbX10_plan, ⟨TX10, 6, rfl, by decide⟩, ax_gd (tb5 (List.mem_of_getElem? (i := 75) rfl)) rfl, imX10_plan, seX10_plan⟩
theorem flX11_347 : ax_FL RX11 347 10 0 6 false := ⟨RX10, TX10, rfl, by decide, by decide, ggX10, tyX10_ok, nmX10, ax_gd (tb2 (List.mem_of_getElem? (i := 105) rfl)) rfl, rfl⟩
theorem flX11_350 : ax_FL RX11 350 10 1 6 true := ⟨RX10, TX10, rfl, by decide, by decide, ggX10, tyX10_ok, nmX10, ax_gd (tb2 (List.mem_of_getElem? (i := 107) rfl)) rfl, rfl⟩
theorem imX4_marksDiffer : Cond.instanceMethod yX4_marksDiffer ∈ ax_good := ax_gd (tb5 (List.mem_of_getElem? (i := 98) rfl)) rfl
theorem seX4_marksDiffer : Cond.selects RX4 yX4_marksDiffer yX4_marksDiffer ∈ ax_good := ax_gd (tb5 (List.mem_of_getElem? (i := 99) rfl)) rfl
theorem mlX11_353 : ax_MV RX11 353 iX4_marksDiffer 4 2 := ⟨cbX4_marksDiffer, ⟨TX4, 9, rfl, by decide⟩, ax_gd (tb5 (List.mem_of_getElem? (i := 97) rfl)) rfl, imX4_marksDiffer, seX4_marksDiffer⟩
theorem imX4_codeOf : Cond.instanceMethod yX4_codeOf ∈ ax_good := ax_gd (tb5 (List.mem_of_getElem? (i := 114) rfl)) rfl
theorem seX4_codeOf : Cond.selects RX4 yX4_codeOf yX4_codeOf ∈ ax_good := ax_gd (tb5 (List.mem_of_getElem? (i := 115) rfl)) rfl
theorem mlX11_356 : ax_MV RX11 356 iX4_codeOf 4 1 := ⟨cbX4_codeOf, ⟨TX4, 9, rfl, by decide⟩, ax_gd (tb5 (List.mem_of_getElem? (i := 113) rfl)) rfl, imX4_codeOf, seX4_codeOf⟩
theorem imX5_fewest : Cond.instanceMethod yX5_fewest ∈ ax_good := ax_gd (tb5 (List.mem_of_getElem? (i := 121) rfl)) rfl
theorem seX5_fewest : Cond.selects RX5 yX5_fewest yX5_fewest ∈ ax_good := ax_gd (tb5 (List.mem_of_getElem? (i := 122) rfl)) rfl
theorem mlX11_359 : ax_MV RX11 359 iX5_fewest 5 2 := ⟨cbX5_fewest, ⟨TX5, 5, rfl, by decide⟩, ax_gd (tb5 (List.mem_of_getElem? (i := 120) rfl)) rfl, imX5_fewest, seX5_fewest⟩
theorem flX11_361 : ax_FL RX11 361 4 3 9 true := ⟨RX4, TX4, rfl, by decide, by decide, ggX4, tyX4_ok, nmX4, ax_gd (tb1 (List.mem_of_getElem? (i := 202) rfl)) rfl, rfl⟩
theorem imX4_balanceOf : Cond.instanceMethod yX4_balanceOf ∈ ax_good := ax_gd (tb5 (List.mem_of_getElem? (i := 102) rfl)) rfl
theorem seX4_balanceOf : Cond.selects RX4 yX4_balanceOf yX4_balanceOf ∈ ax_good := ax_gd (tb5 (List.mem_of_getElem? (i := 103) rfl)) rfl
theorem mlX11_364 : ax_MV RX11 364 iX4_balanceOf 4 1 := ⟨cbX4_balanceOf, ⟨TX4, 9, rfl, by decide⟩, ax_gd (tb5 (List.mem_of_getElem? (i := 143) rfl)) rfl, imX4_balanceOf, seX4_balanceOf⟩
theorem imX4_twistsOf : Cond.instanceMethod yX4_twistsOf ∈ ax_good := ax_gd (tb5 (List.mem_of_getElem? (i := 110) rfl)) rfl
theorem seX4_twistsOf : Cond.selects RX4 yX4_twistsOf yX4_twistsOf ∈ ax_good := ax_gd (tb5 (List.mem_of_getElem? (i := 111) rfl)) rfl
theorem mlX11_367 : ax_MV RX11 367 iX4_twistsOf 4 1 := ⟨cbX4_twistsOf, ⟨TX4, 9, rfl, by decide⟩, ax_gd (tb5 (List.mem_of_getElem? (i := 144) rfl)) rfl, imX4_twistsOf, seX4_twistsOf⟩
theorem imX4_letterOf : Cond.instanceMethod yX4_letterOf ∈ ax_good := ax_gd (tb5 (List.mem_of_getElem? (i := 146) rfl)) rfl
theorem seX4_letterOf : Cond.selects RX4 yX4_letterOf yX4_letterOf ∈ ax_good := ax_gd (tb5 (List.mem_of_getElem? (i := 147) rfl)) rfl
theorem mlX11_370 : ax_MV RX11 370 iX4_letterOf 4 2 := ⟨cbX4_letterOf, ⟨TX4, 9, rfl, by decide⟩, ax_gd (tb5 (List.mem_of_getElem? (i := 145) rfl)) rfl, imX4_letterOf, seX4_letterOf⟩
theorem imX0_salesOf : Cond.instanceMethod yX0_salesOf ∈ ax_good := ax_gd (tb5 (List.mem_of_getElem? (i := 158) rfl)) rfl
theorem seX0_salesOf : Cond.selects RX0 yX0_salesOf yX0_salesOf ∈ ax_good := ax_gd (tb5 (List.mem_of_getElem? (i := 159) rfl)) rfl
theorem mlX11_373 : ax_MV RX11 373 iX0_salesOf 0 2 := ⟨cbX0_salesOf, ⟨TX0, 1, rfl, by decide⟩, ax_gd (tb5 (List.mem_of_getElem? (i := 157) rfl)) rfl, imX0_salesOf, seX0_salesOf⟩
theorem imX0_latestHand : Cond.instanceMethod yX0_latestHand ∈ ax_good := ax_gd (tb5 (List.mem_of_getElem? (i := 163) rfl)) rfl
theorem seX0_latestHand : Cond.selects RX0 yX0_latestHand yX0_latestHand ∈ ax_good := ax_gd (tb5 (List.mem_of_getElem? (i := 164) rfl)) rfl
theorem mlX11_376 : ax_MV RX11 376 iX0_latestHand 0 3 := ⟨cbX0_latestHand, ⟨TX0, 1, rfl, by decide⟩, ax_gd (tb5 (List.mem_of_getElem? (i := 162) rfl)) rfl, imX0_latestHand, seX0_latestHand⟩
theorem imX9_copyFrom : Cond.instanceMethod yX9_copyFrom ∈ ax_good := ax_gd (tb3 (List.mem_of_getElem? (i := 2) rfl)) rfl
theorem seX9_copyFrom : Cond.selects RX9 yX9_copyFrom yX9_copyFrom ∈ ax_good := ax_gd (tb3 (List.mem_of_getElem? (i := 3) rfl)) rfl
theorem mlX11_380 : ax_MV RX11 380 iX9_copyFrom 9 1 := ⟨cbX9_copyFrom, ⟨TX9, 7, rfl, by decide⟩, ax_gd (tb3 (List.mem_of_getElem? (i := 1) rfl)) rfl, imX9_copyFrom, seX9_copyFrom⟩
theorem imX0_copyFrom : Cond.instanceMethod yX0_copyFrom ∈ ax_good := ax_gd (tb5 (List.mem_of_getElem? (i := 175) rfl)) rfl
theorem seX0_copyFrom : Cond.selects RX0 yX0_copyFrom yX0_copyFrom ∈ ax_good := ax_gd (tb5 (List.mem_of_getElem? (i := 176) rfl)) rfl
theorem mlX11_383 : ax_MV RX11 383 iX0_copyFrom 0 1 := ⟨cbX0_copyFrom, ⟨TX0, 1, rfl, by decide⟩, ax_gd (tb5 (List.mem_of_getElem? (i := 174) rfl)) rfl, imX0_copyFrom, seX0_copyFrom⟩
theorem imX4_copyFrom : Cond.instanceMethod yX4_copyFrom ∈ ax_good := ax_gd (tb5 (List.mem_of_getElem? (i := 180) rfl)) rfl
theorem seX4_copyFrom : Cond.selects RX4 yX4_copyFrom yX4_copyFrom ∈ ax_good := ax_gd (tb5 (List.mem_of_getElem? (i := 181) rfl)) rfl
theorem mlX11_386 : ax_MV RX11 386 iX4_copyFrom 4 1 := ⟨cbX4_copyFrom, ⟨TX4, 9, rfl, by decide⟩, ax_gd (tb5 (List.mem_of_getElem? (i := 179) rfl)) rfl, imX4_copyFrom, seX4_copyFrom⟩
theorem flX11_388 : ax_FL RX11 388 11 13 17 false := ⟨RX11, TX11, rfl, by decide, by decide, ggX11, tyX11_ok, nmX11, ax_gd (tb2 (List.mem_of_getElem? (i := 161) rfl)) rfl, rfl⟩
theorem imX9_ropeSet : Cond.instanceMethod yX9_ropeSet ∈ ax_good := ax_gd (tb3 (List.mem_of_getElem? (i := 172) rfl)) rfl
theorem seX9_ropeSet : Cond.selects RX9 yX9_ropeSet yX9_ropeSet ∈ ax_good := ax_gd (tb3 (List.mem_of_getElem? (i := 173) rfl)) rfl
theorem mlX11_391 : ax_MV RX11 391 iX9_ropeSet 9 0 := ⟨cbX9_ropeSet, ⟨TX9, 7, rfl, by decide⟩, ax_gd (tb3 (List.mem_of_getElem? (i := 171) rfl)) rfl, imX9_ropeSet, seX9_ropeSet⟩
theorem imX7_tieKnot : Cond.instanceMethod yX7_tieKnot ∈ ax_good := ax_gd (tb3 (List.mem_of_getElem? (i := 18) rfl)) rfl
theorem seX7_tieKnot : Cond.selects RX7 yX7_tieKnot yX7_tieKnot ∈ ax_good := ax_gd (tb3 (List.mem_of_getElem? (i := 19) rfl)) rfl
theorem mlX11_394 : ax_MV RX11 394 iX7_tieKnot 7 4 := ⟨cbX7_tieKnot, ⟨TX7, 8, rfl, by decide⟩, ax_gd (tb3 (List.mem_of_getElem? (i := 17) rfl)) rfl, imX7_tieKnot, seX7_tieKnot⟩
theorem imX2_forget : Cond.instanceMethod yX2_forget ∈ ax_good := ax_gd (tb3 (List.mem_of_getElem? (i := 157) rfl)) rfl
theorem seX2_forget : Cond.selects RX2 yX2_forget yX2_forget ∈ ax_good := ax_gd (tb3 (List.mem_of_getElem? (i := 158) rfl)) rfl
theorem mlX11_397 : ax_MV RX11 397 iX2_forget 2 2 := ⟨cbX2_forget, ⟨TX2, 7, rfl, by decide⟩, ax_gd (tb3 (List.mem_of_getElem? (i := 156) rfl)) rfl, imX2_forget, seX2_forget⟩
theorem imX9_drawBelow : Cond.instanceMethod yX9_drawBelow ∈ ax_good := ax_gd (tb3 (List.mem_of_getElem? (i := 166) rfl)) rfl
theorem seX9_drawBelow : Cond.selects RX9 yX9_drawBelow yX9_drawBelow ∈ ax_good := ax_gd (tb3 (List.mem_of_getElem? (i := 167) rfl)) rfl
theorem mlX11_401 : ax_MV RX11 401 iX9_drawBelow 9 1 := ⟨cbX9_drawBelow, ⟨TX9, 7, rfl, by decide⟩, ax_gd (tb3 (List.mem_of_getElem? (i := 165) rfl)) rfl, imX9_drawBelow, seX9_drawBelow⟩
theorem flX11_404 : ax_FL RX11 404 1 2 7 true := ⟨RX1, TX1, rfl, by decide, by decide, ggX1, tyX1_ok, nmX1, ax_gd (tb1 (List.mem_of_getElem? (i := 158) rfl)) rfl, rfl⟩
theorem flX11_407 : ax_FL RX11 407 1 1 7 true := ⟨RX1, TX1, rfl, by decide, by decide, ggX1, tyX1_ok, nmX1, ax_gd (tb1 (List.mem_of_getElem? (i := 156) rfl)) rfl, rfl⟩
theorem flX11_410 : ax_FL RX11 410 1 3 7 true := ⟨RX1, TX1, rfl, by decide, by decide, ggX1, tyX1_ok, nmX1, ax_gd (tb1 (List.mem_of_getElem? (i := 160) rfl)) rfl, rfl⟩
theorem mlX12_1 : Cond.methodLink RX12 1 objectInit ∈ ax_good := ax_gd (tb5 (List.mem_of_getElem? (i := 195) rfl)) rfl
theorem flX12_7 : ax_FL RX12 7 12 0 45 true := ⟨RX12, TX12, rfl, by decide, by decide, ggX12, tyX12_ok, nmX12, ax_gd (tb5 (List.mem_of_getElem? (i := 196) rfl)) rfl, rfl⟩
theorem flX12_13 : ax_FL RX12 13 12 1 45 true := ⟨RX12, TX12, rfl, by decide, by decide, ggX12, tyX12_ok, nmX12, ax_gd (tb5 (List.mem_of_getElem? (i := 197) rfl)) rfl, rfl⟩
theorem flX12_16 : ax_FL RX12 16 12 2 45 true := ⟨RX12, TX12, rfl, by decide, by decide, ggX12, tyX12_ok, nmX12, ax_gd (tb5 (List.mem_of_getElem? (i := 198) rfl)) rfl, rfl⟩
theorem flX12_19 : ax_FL RX12 19 12 3 45 true := ⟨RX12, TX12, rfl, by decide, by decide, ggX12, tyX12_ok, nmX12, ax_gd (tb5 (List.mem_of_getElem? (i := 199) rfl)) rfl, rfl⟩
theorem flX12_22 : ax_FL RX12 22 12 6 45 true := ⟨RX12, TX12, rfl, by decide, by decide, ggX12, tyX12_ok, nmX12, ax_gd (tb5 (List.mem_of_getElem? (i := 202) rfl)) rfl, rfl⟩
theorem flX12_25 : ax_FL RX12 25 12 7 45 true := ⟨RX12, TX12, rfl, by decide, by decide, ggX12, tyX12_ok, nmX12, ax_gd (tb5 (List.mem_of_getElem? (i := 203) rfl)) rfl, rfl⟩
theorem flX12_28 : ax_FL RX12 28 12 8 45 true := ⟨RX12, TX12, rfl, by decide, by decide, ggX12, tyX12_ok, nmX12, ax_gd (tb5 (List.mem_of_getElem? (i := 204) rfl)) rfl, rfl⟩
theorem flX12_31 : ax_FL RX12 31 12 9 45 true := ⟨RX12, TX12, rfl, by decide, by decide, ggX12, tyX12_ok, nmX12, ax_gd (tb5 (List.mem_of_getElem? (i := 205) rfl)) rfl, rfl⟩
theorem flX12_34 : ax_FL RX12 34 12 10 45 true := ⟨RX12, TX12, rfl, by decide, by decide, ggX12, tyX12_ok, nmX12, ax_gd (tb5 (List.mem_of_getElem? (i := 206) rfl)) rfl, rfl⟩
theorem flX12_37 : ax_FL RX12 37 12 11 45 true := ⟨RX12, TX12, rfl, by decide, by decide, ggX12, tyX12_ok, nmX12, ax_gd (tb5 (List.mem_of_getElem? (i := 207) rfl)) rfl, rfl⟩
theorem flX12_40 : ax_FL RX12 40 12 12 45 true := ⟨RX12, TX12, rfl, by decide, by decide, ggX12, tyX12_ok, nmX12, ax_gd (tb5 (List.mem_of_getElem? (i := 208) rfl)) rfl, rfl⟩
theorem flX12_43 : ax_FL RX12 43 12 26 45 false := ⟨RX12, TX12, rfl, by decide, by decide, ggX12, tyX12_ok, nmX12, ax_gd (tb5 (List.mem_of_getElem? (i := 222) rfl)) rfl, rfl⟩
theorem flX12_47 : ax_FL RX12 47 12 28 45 true := ⟨RX12, TX12, rfl, by decide, by decide, ggX12, tyX12_ok, nmX12, ax_gd (tb5 (List.mem_of_getElem? (i := 224) rfl)) rfl, rfl⟩
theorem flX12_50 : ax_FL RX12 50 12 29 45 true := ⟨RX12, TX12, rfl, by decide, by decide, ggX12, tyX12_ok, nmX12, ax_gd (tb5 (List.mem_of_getElem? (i := 225) rfl)) rfl, rfl⟩
theorem flX12_53 : ax_FL RX12 53 12 34 45 true := ⟨RX12, TX12, rfl, by decide, by decide, ggX12, tyX12_ok, nmX12, ax_gd (tb5 (List.mem_of_getElem? (i := 230) rfl)) rfl, rfl⟩
theorem flX12_56 : ax_FL RX12 56 12 36 45 true := ⟨RX12, TX12, rfl, by decide, by decide, ggX12, tyX12_ok, nmX12, ax_gd (tb5 (List.mem_of_getElem? (i := 232) rfl)) rfl, rfl⟩
theorem flX12_59 : ax_FL RX12 59 12 37 45 true := ⟨RX12, TX12, rfl, by decide, by decide, ggX12, tyX12_ok, nmX12, ax_gd (tb5 (List.mem_of_getElem? (i := 233) rfl)) rfl, rfl⟩
theorem flX12_62 : ax_FL RX12 62 12 38 45 true := ⟨RX12, TX12, rfl, by decide, by decide, ggX12, tyX12_ok, nmX12, ax_gd (tb5 (List.mem_of_getElem? (i := 234) rfl)) rfl, rfl⟩
theorem flX12_65 : ax_FL RX12 65 12 40 45 true := ⟨RX12, TX12, rfl, by decide, by decide, ggX12, tyX12_ok, nmX12, ax_gd (tb5 (List.mem_of_getElem? (i := 236) rfl)) rfl, rfl⟩
theorem flX12_68 : ax_FL RX12 68 12 41 45 true := ⟨RX12, TX12, rfl, by decide, by decide, ggX12, tyX12_ok, nmX12, ax_gd (tb5 (List.mem_of_getElem? (i := 237) rfl)) rfl, rfl⟩
theorem flX12_71 : ax_FL RX12 71 12 42 45 true := ⟨RX12, TX12, rfl, by decide, by decide, ggX12, tyX12_ok, nmX12, ax_gd (tb5 (List.mem_of_getElem? (i := 238) rfl)) rfl, rfl⟩
theorem mlX12_74 : ax_MS RX12 74 iX12_isIn 3 ∨ ∃ host, ax_MSN RX12 74 iX12_isIn host 3 := Or.inl ⟨cbX12_isIn, ax_gd (tb6 (List.mem_of_getElem? (i := 112) rfl)) rfl, ax_gd (tb6 (List.mem_of_getElem? (i := 113) rfl)) rfl⟩
theorem imX12_ofRope : Cond.instanceMethod yX12_ofRope ∈ ax_good := ax_gd (tb6 (List.mem_of_getElem? (i := 110) rfl)) rfl
theorem seX12_ofRope : Cond.selects RX12 yX12_ofRope yX12_ofRope ∈ ax_good := ax_gd (tbs (pv3 (List.mem_of_getElem? (i := 1) rfl))) rfl
theorem mlX12_78 : ax_MV RX12 78 iX12_ofRope 12 2 := ⟨cbX12_ofRope, ⟨TX12, 45, rfl, by decide⟩, ax_gd (tb6 (List.mem_of_getElem? (i := 108) rfl)) rfl, imX12_ofRope, seX12_ofRope⟩
theorem imX12_isRope : Cond.instanceMethod yX12_isRope ∈ ax_good := ax_gd (tb7 (List.mem_of_getElem? (i := 96) rfl)) rfl
theorem seX12_isRope : Cond.selects RX12 yX12_isRope yX12_isRope ∈ ax_good := ax_gd (tbs (pv5 (List.mem_of_getElem? (i := 8) rfl))) rfl
theorem mlX12_82 : ax_MV RX12 82 iX12_isRope 12 1 := ⟨cbX12_isRope, ⟨TX12, 45, rfl, by decide⟩, ax_gd (tb7 (List.mem_of_getElem? (i := 94) rfl)) rfl, imX12_isRope, seX12_isRope⟩
theorem imX12_ofPlace : Cond.instanceMethod yX12_ofPlace ∈ ax_good := ax_gd (tb7 (List.mem_of_getElem? (i := 104) rfl)) rfl
theorem seX12_ofPlace : Cond.selects RX12 yX12_ofPlace yX12_ofPlace ∈ ax_good := ax_gd (tbs (pv5 (List.mem_of_getElem? (i := 10) rfl))) rfl
theorem mlX12_86 : ax_MV RX12 86 iX12_ofPlace 12 3 := ⟨cbX12_ofPlace, ⟨TX12, 45, rfl, by decide⟩, ax_gd (tb7 (List.mem_of_getElem? (i := 102) rfl)) rfl, imX12_ofPlace, seX12_ofPlace⟩
theorem flX12_90 : ax_FL RX12 90 12 4 45 false := ⟨RX12, TX12, rfl, by decide, by decide, ggX12, tyX12_ok, nmX12, ax_gd (tb5 (List.mem_of_getElem? (i := 200) rfl)) rfl, rfl⟩
theorem imX12_forgets : Cond.instanceMethod yX12_forgets ∈ ax_good := ax_gd (tb6 (List.mem_of_getElem? (i := 98) rfl)) rfl
theorem seX12_forgets : Cond.selects RX12 yX12_forgets yX12_forgets ∈ ax_good := ax_gd (tbs (pv2 (List.mem_of_getElem? (i := 15) rfl))) rfl
theorem mlX12_93 : ax_MV RX12 93 iX12_forgets 12 0 := ⟨cbX12_forgets, ⟨TX12, 45, rfl, by decide⟩, ax_gd (tb6 (List.mem_of_getElem? (i := 96) rfl)) rfl, imX12_forgets, seX12_forgets⟩
theorem klX12_96 : Cond.constant RX12 96 1664525 ∈ ax_good := ax_gd (by decide +kernel) rfl
theorem klX12_97 : Cond.constant RX12 97 1013904223 ∈ ax_good := ax_gd (by decide +kernel) rfl
theorem imX12_ropes : Cond.instanceMethod yX12_ropes ∈ ax_good := ax_gd (tb6 (List.mem_of_getElem? (i := 121) rfl)) rfl
theorem seX12_ropes : Cond.selects RX12 yX12_ropes yX12_ropes ∈ ax_good := ax_gd (tbs (pv3 (List.mem_of_getElem? (i := 3) rfl))) rfl
theorem mlX12_98 : ax_MV RX12 98 iX12_ropes 12 3 := ⟨cbX12_ropes, ⟨TX12, 45, rfl, by decide⟩, ax_gd (tb6 (List.mem_of_getElem? (i := 119) rfl)) rfl, imX12_ropes, seX12_ropes⟩
theorem imX12_places : Cond.instanceMethod yX12_places ∈ ax_good := ax_gd (tb6 (List.mem_of_getElem? (i := 125) rfl)) rfl
theorem seX12_places : Cond.selects RX12 yX12_places yX12_places ∈ ax_good := ax_gd (tbs (pv3 (List.mem_of_getElem? (i := 4) rfl))) rfl
theorem mlX12_102 : ax_MV RX12 102 iX12_places 12 4 := ⟨cbX12_places, ⟨TX12, 45, rfl, by decide⟩, ax_gd (tb6 (List.mem_of_getElem? (i := 123) rfl)) rfl, imX12_places, seX12_places⟩
theorem imX12_habits : Cond.instanceMethod yX12_habits ∈ ax_good := ax_gd (tb6 (List.mem_of_getElem? (i := 129) rfl)) rfl
theorem seX12_habits : Cond.selects RX12 yX12_habits yX12_habits ∈ ax_good := ax_gd (tbs (pv3 (List.mem_of_getElem? (i := 5) rfl))) rfl
theorem mlX12_106 : ax_MV RX12 106 iX12_habits 12 5 := ⟨cbX12_habits, ⟨TX12, 45, rfl, by decide⟩, ax_gd (tb6 (List.mem_of_getElem? (i := 127) rfl)) rfl, imX12_habits, seX12_habits⟩
theorem imX12_freeRope : Cond.instanceMethod yX12_freeRope ∈ ax_good := ax_gd (tb6 (List.mem_of_getElem? (i := 106) rfl)) rfl
theorem seX12_freeRope : Cond.selects RX12 yX12_freeRope yX12_freeRope ∈ ax_good := ax_gd (tbs (pv3 (List.mem_of_getElem? (i := 0) rfl))) rfl
theorem mlX12_110 : ax_MV RX12 110 iX12_freeRope 12 0 := ⟨cbX12_freeRope, ⟨TX12, 45, rfl, by decide⟩, ax_gd (tb6 (List.mem_of_getElem? (i := 104) rfl)) rfl, imX12_freeRope, seX12_freeRope⟩
theorem imX12_begins : Cond.instanceMethod yX12_begins ∈ ax_good := ax_gd (tb6 (List.mem_of_getElem? (i := 117) rfl)) rfl
theorem seX12_begins : Cond.selects RX12 yX12_begins yX12_begins ∈ ax_good := ax_gd (tbs (pv3 (List.mem_of_getElem? (i := 2) rfl))) rfl
theorem mlX12_114 : ax_MV RX12 114 iX12_begins 12 5 := ⟨cbX12_begins, ⟨TX12, 45, rfl, by decide⟩, ax_gd (tb6 (List.mem_of_getElem? (i := 115) rfl)) rfl, imX12_begins, seX12_begins⟩
theorem mlX12_117 : ax_MS RX12 117 iX12_isKnot 1 ∨ ∃ host, ax_MSN RX12 117 iX12_isKnot host 1 := Or.inl ⟨cbX12_isKnot, ax_gd (tb6 (List.mem_of_getElem? (i := 135) rfl)) rfl, ax_gd (tb6 (List.mem_of_getElem? (i := 136) rfl)) rfl⟩
theorem flX12_120 : ax_FL RX12 120 12 17 45 false := ⟨RX12, TX12, rfl, by decide, by decide, ggX12, tyX12_ok, nmX12, ax_gd (tb5 (List.mem_of_getElem? (i := 213) rfl)) rfl, rfl⟩
theorem flX12_123 : ax_FL RX12 123 12 18 45 false := ⟨RX12, TX12, rfl, by decide, by decide, ggX12, tyX12_ok, nmX12, ax_gd (tb5 (List.mem_of_getElem? (i := 214) rfl)) rfl, rfl⟩
theorem flX12_126 : ax_FL RX12 126 12 20 45 false := ⟨RX12, TX12, rfl, by decide, by decide, ggX12, tyX12_ok, nmX12, ax_gd (tb5 (List.mem_of_getElem? (i := 216) rfl)) rfl, rfl⟩
theorem imX12_is : Cond.instanceMethod yX12_is ∈ ax_good := ax_gd (tb6 (List.mem_of_getElem? (i := 184) rfl)) rfl
theorem seX12_is : Cond.selects RX12 yX12_is yX12_is ∈ ax_good := ax_gd (tbs (pv3 (List.mem_of_getElem? (i := 13) rfl))) rfl
theorem mlX12_140 : ax_MV RX12 140 iX12_is 12 1 := ⟨cbX12_is, ⟨TX12, 45, rfl, by decide⟩, ax_gd (tb6 (List.mem_of_getElem? (i := 182) rfl)) rfl, imX12_is, seX12_is⟩
theorem imX12_bothName : Cond.instanceMethod yX12_bothName ∈ ax_good := ax_gd (tb6 (List.mem_of_getElem? (i := 206) rfl)) rfl
theorem seX12_bothName : Cond.selects RX12 yX12_bothName yX12_bothName ∈ ax_good := ax_gd (tbs (pv3 (List.mem_of_getElem? (i := 15) rfl))) rfl
theorem mlX12_160 : ax_MV RX12 160 iX12_bothName 12 0 := ⟨cbX12_bothName, ⟨TX12, 45, rfl, by decide⟩, ax_gd (tb6 (List.mem_of_getElem? (i := 204) rfl)) rfl, imX12_bothName, seX12_bothName⟩
theorem flX12_182 : ax_FL RX12 182 12 13 45 false := ⟨RX12, TX12, rfl, by decide, by decide, ggX12, tyX12_ok, nmX12, ax_gd (tb5 (List.mem_of_getElem? (i := 209) rfl)) rfl, rfl⟩
theorem imX12_drillWord : Cond.instanceMethod yX12_drillWord ∈ ax_good := ax_gd (tb6 (List.mem_of_getElem? (i := 179) rfl)) rfl
theorem seX12_drillWord : Cond.selects RX12 yX12_drillWord yX12_drillWord ∈ ax_good := ax_gd (tbs (pv3 (List.mem_of_getElem? (i := 12) rfl))) rfl
theorem mlX12_185 : ax_MV RX12 185 iX12_drillWord 12 0 := ⟨cbX12_drillWord, ⟨TX12, 45, rfl, by decide⟩, ax_gd (tb6 (List.mem_of_getElem? (i := 177) rfl)) rfl, imX12_drillWord, seX12_drillWord⟩
theorem imX12_tieName : Cond.instanceMethod yX12_tieName ∈ ax_good := ax_gd (tb6 (List.mem_of_getElem? (i := 200) rfl)) rfl
theorem seX12_tieName : Cond.selects RX12 yX12_tieName yX12_tieName ∈ ax_good := ax_gd (tbs (pv3 (List.mem_of_getElem? (i := 14) rfl))) rfl
theorem mlX12_196 : ax_MV RX12 196 iX12_tieName 12 0 := ⟨cbX12_tieName, ⟨TX12, 45, rfl, by decide⟩, ax_gd (tb6 (List.mem_of_getElem? (i := 198) rfl)) rfl, imX12_tieName, seX12_tieName⟩
theorem imX12_holdName : Cond.instanceMethod yX12_holdName ∈ ax_good := ax_gd (tb6 (List.mem_of_getElem? (i := 215) rfl)) rfl
theorem seX12_holdName : Cond.selects RX12 yX12_holdName yX12_holdName ∈ ax_good := ax_gd (tbs (pv4 (List.mem_of_getElem? (i := 0) rfl))) rfl
theorem mlX12_199 : ax_MV RX12 199 iX12_holdName 12 0 := ⟨cbX12_holdName, ⟨TX12, 45, rfl, by decide⟩, ax_gd (tb6 (List.mem_of_getElem? (i := 213) rfl)) rfl, imX12_holdName, seX12_holdName⟩
theorem imX12_see : Cond.instanceMethod yX12_see ∈ ax_good := ax_gd (tb6 (List.mem_of_getElem? (i := 168) rfl)) rfl
theorem seX12_see : Cond.selects RX12 yX12_see yX12_see ∈ ax_good := ax_gd (tbs (pv3 (List.mem_of_getElem? (i := 10) rfl))) rfl
theorem mlX12_204 : ax_MV RX12 204 iX12_see 12 1 := ⟨cbX12_see, ⟨TX12, 45, rfl, by decide⟩, ax_gd (tb6 (List.mem_of_getElem? (i := 166) rfl)) rfl, imX12_see, seX12_see⟩
theorem flX12_208 : ax_FL RX12 208 12 19 45 false := ⟨RX12, TX12, rfl, by decide, by decide, ggX12, tyX12_ok, nmX12, ax_gd (tb5 (List.mem_of_getElem? (i := 215) rfl)) rfl, rfl⟩
theorem mlX12_211 : ax_MS RX12 211 iX12_isLetter 1 ∨ ∃ host, ax_MSN RX12 211 iX12_isLetter host 1 := Or.inl ⟨cbX12_isLetter, ax_gd (tb6 (List.mem_of_getElem? (i := 170) rfl)) rfl, ax_gd (tb6 (List.mem_of_getElem? (i := 171) rfl)) rfl⟩
theorem imX12_word : Cond.instanceMethod yX12_word ∈ ax_good := ax_gd (tb6 (List.mem_of_getElem? (i := 175) rfl)) rfl
theorem seX12_word : Cond.selects RX12 yX12_word yX12_word ∈ ax_good := ax_gd (tbs (pv3 (List.mem_of_getElem? (i := 11) rfl))) rfl
theorem mlX12_214 : ax_MV RX12 214 iX12_word 12 0 := ⟨cbX12_word, ⟨TX12, 45, rfl, by decide⟩, ax_gd (tb6 (List.mem_of_getElem? (i := 173) rfl)) rfl, imX12_word, seX12_word⟩
theorem mlX12_217 : ax_MS RX12 217 iX12_isDigit 1 ∨ ∃ host, ax_MSN RX12 217 iX12_isDigit host 1 := Or.inl ⟨cbX12_isDigit, ax_gd (tb6 (List.mem_of_getElem? (i := 224) rfl)) rfl, ax_gd (tb6 (List.mem_of_getElem? (i := 225) rfl)) rfl⟩
theorem flX12_220 : ax_FL RX12 220 12 21 45 false := ⟨RX12, TX12, rfl, by decide, by decide, ggX12, tyX12_ok, nmX12, ax_gd (tb5 (List.mem_of_getElem? (i := 217) rfl)) rfl, rfl⟩
theorem flX12_223 : ax_FL RX12 223 12 22 45 false := ⟨RX12, TX12, rfl, by decide, by decide, ggX12, tyX12_ok, nmX12, ax_gd (tb5 (List.mem_of_getElem? (i := 218) rfl)) rfl, rfl⟩
theorem flX12_226 : ax_FL RX12 226 12 23 45 false := ⟨RX12, TX12, rfl, by decide, by decide, ggX12, tyX12_ok, nmX12, ax_gd (tb5 (List.mem_of_getElem? (i := 219) rfl)) rfl, rfl⟩
theorem imX12_bad : Cond.instanceMethod yX12_bad ∈ ax_good := ax_gd (tb7 (List.mem_of_getElem? (i := 1) rfl)) rfl
theorem seX12_bad : Cond.selects RX12 yX12_bad yX12_bad ∈ ax_good := ax_gd (tbs (pv4 (List.mem_of_getElem? (i := 4) rfl))) rfl
theorem mlX12_229 : ax_MV RX12 229 iX12_bad 12 1 := ⟨cbX12_bad, ⟨TX12, 45, rfl, by decide⟩, ax_gd (tb6 (List.mem_of_getElem? (i := 239) rfl)) rfl, imX12_bad, seX12_bad⟩
theorem imX12_next0 : Cond.instanceMethod yX12_next0 ∈ ax_good := ax_gd (tb6 (List.mem_of_getElem? (i := 164) rfl)) rfl
theorem seX12_next0 : Cond.selects RX12 yX12_next0 yX12_next0 ∈ ax_good := ax_gd (tbs (pv3 (List.mem_of_getElem? (i := 9) rfl))) rfl
theorem mlX12_232 : ax_MV RX12 232 iX12_next0 12 0 := ⟨cbX12_next0, ⟨TX12, 45, rfl, by decide⟩, ax_gd (tb6 (List.mem_of_getElem? (i := 162) rfl)) rfl, imX12_next0, seX12_next0⟩
theorem flX12_235 : ax_FL RX12 235 12 15 45 false := ⟨RX12, TX12, rfl, by decide, by decide, ggX12, tyX12_ok, nmX12, ax_gd (tb5 (List.mem_of_getElem? (i := 211) rfl)) rfl, rfl⟩
theorem flX12_238 : ax_FL RX12 238 12 25 45 false := ⟨RX12, TX12, rfl, by decide, by decide, ggX12, tyX12_ok, nmX12, ax_gd (tb5 (List.mem_of_getElem? (i := 221) rfl)) rfl, rfl⟩
theorem imX12_product : Cond.instanceMethod yX12_product ∈ ax_good := ax_gd (tb7 (List.mem_of_getElem? (i := 36) rfl)) rfl
theorem seX12_product : Cond.selects RX12 yX12_product yX12_product ∈ ax_good := ax_gd (tbs (pv4 (List.mem_of_getElem? (i := 12) rfl))) rfl
theorem mlX12_241 : ax_MV RX12 241 iX12_product 12 0 := ⟨cbX12_product, ⟨TX12, 45, rfl, by decide⟩, ax_gd (tb7 (List.mem_of_getElem? (i := 34) rfl)) rfl, imX12_product, seX12_product⟩
theorem imX12_lay : Cond.instanceMethod yX12_lay ∈ ax_good := ax_gd (tb7 (List.mem_of_getElem? (i := 44) rfl)) rfl
theorem seX12_lay : Cond.selects RX12 yX12_lay yX12_lay ∈ ax_good := ax_gd (tbs (pv4 (List.mem_of_getElem? (i := 14) rfl))) rfl
theorem mlX12_245 : ax_MV RX12 245 iX12_lay 12 2 := ⟨cbX12_lay, ⟨TX12, 45, rfl, by decide⟩, ax_gd (tb7 (List.mem_of_getElem? (i := 42) rfl)) rfl, imX12_lay, seX12_lay⟩
theorem imX12_unit : Cond.instanceMethod yX12_unit ∈ ax_good := ax_gd (tb7 (List.mem_of_getElem? (i := 40) rfl)) rfl
theorem seX12_unit : Cond.selects RX12 yX12_unit yX12_unit ∈ ax_good := ax_gd (tbs (pv4 (List.mem_of_getElem? (i := 13) rfl))) rfl
theorem mlX12_249 : ax_MV RX12 249 iX12_unit 12 0 := ⟨cbX12_unit, ⟨TX12, 45, rfl, by decide⟩, ax_gd (tb7 (List.mem_of_getElem? (i := 38) rfl)) rfl, imX12_unit, seX12_unit⟩
theorem imX12_every : Cond.instanceMethod yX12_every ∈ ax_good := ax_gd (tb7 (List.mem_of_getElem? (i := 52) rfl)) rfl
theorem seX12_every : Cond.selects RX12 yX12_every yX12_every ∈ ax_good := ax_gd (tbs (pv5 (List.mem_of_getElem? (i := 0) rfl))) rfl
theorem mlX12_252 : ax_MV RX12 252 iX12_every 12 0 := ⟨cbX12_every, ⟨TX12, 45, rfl, by decide⟩, ax_gd (tb7 (List.mem_of_getElem? (i := 50) rfl)) rfl, imX12_every, seX12_every⟩
theorem imX12_oneTest : Cond.instanceMethod yX12_oneTest ∈ ax_good := ax_gd (tb7 (List.mem_of_getElem? (i := 56) rfl)) rfl
theorem seX12_oneTest : Cond.selects RX12 yX12_oneTest yX12_oneTest ∈ ax_good := ax_gd (tbs (pv5 (List.mem_of_getElem? (i := 1) rfl))) rfl
theorem mlX12_255 : ax_MV RX12 255 iX12_oneTest 12 0 := ⟨cbX12_oneTest, ⟨TX12, 45, rfl, by decide⟩, ax_gd (tb7 (List.mem_of_getElem? (i := 54) rfl)) rfl, imX12_oneTest, seX12_oneTest⟩
theorem imX12_opens : Cond.instanceMethod yX12_opens ∈ ax_good := ax_gd (tb7 (List.mem_of_getElem? (i := 60) rfl)) rfl
theorem seX12_opens : Cond.selects RX12 yX12_opens yX12_opens ∈ ax_good := ax_gd (tbs (pv5 (List.mem_of_getElem? (i := 2) rfl))) rfl
theorem mlX12_258 : ax_MV RX12 258 iX12_opens 12 0 := ⟨cbX12_opens, ⟨TX12, 45, rfl, by decide⟩, ax_gd (tb7 (List.mem_of_getElem? (i := 58) rfl)) rfl, imX12_opens, seX12_opens⟩
theorem imX12_any : Cond.instanceMethod yX12_any ∈ ax_good := ax_gd (tb7 (List.mem_of_getElem? (i := 48) rfl)) rfl
theorem seX12_any : Cond.selects RX12 yX12_any yX12_any ∈ ax_good := ax_gd (tbs (pv4 (List.mem_of_getElem? (i := 15) rfl))) rfl
theorem mlX12_261 : ax_MV RX12 261 iX12_any 12 0 := ⟨cbX12_any, ⟨TX12, 45, rfl, by decide⟩, ax_gd (tb7 (List.mem_of_getElem? (i := 46) rfl)) rfl, imX12_any, seX12_any⟩
theorem imX12_need : Cond.instanceMethod yX12_need ∈ ax_good := ax_gd (tb7 (List.mem_of_getElem? (i := 9) rfl)) rfl
theorem seX12_need : Cond.selects RX12 yX12_need yX12_need ∈ ax_good := ax_gd (tbs (pv4 (List.mem_of_getElem? (i := 6) rfl))) rfl
theorem mlX12_264 : ax_MV RX12 264 iX12_need 12 1 := ⟨cbX12_need, ⟨TX12, 45, rfl, by decide⟩, ax_gd (tb7 (List.mem_of_getElem? (i := 7) rfl)) rfl, imX12_need, seX12_need⟩
theorem imX12_sumUp : Cond.instanceMethod yX12_sumUp ∈ ax_good := ax_gd (tb7 (List.mem_of_getElem? (i := 32) rfl)) rfl
theorem seX12_sumUp : Cond.selects RX12 yX12_sumUp yX12_sumUp ∈ ax_good := ax_gd (tbs (pv4 (List.mem_of_getElem? (i := 11) rfl))) rfl
theorem mlX12_267 : ax_MV RX12 267 iX12_sumUp 12 0 := ⟨cbX12_sumUp, ⟨TX12, 45, rfl, by decide⟩, ax_gd (tb7 (List.mem_of_getElem? (i := 30) rfl)) rfl, imX12_sumUp, seX12_sumUp⟩
theorem flX12_270 : ax_FL RX12 270 12 14 45 false := ⟨RX12, TX12, rfl, by decide, by decide, ggX12, tyX12_ok, nmX12, ax_gd (tb5 (List.mem_of_getElem? (i := 210) rfl)) rfl, rfl⟩
theorem imX12_aLine : Cond.instanceMethod yX12_aLine ∈ ax_good := ax_gd (tb7 (List.mem_of_getElem? (i := 28) rfl)) rfl
theorem seX12_aLine : Cond.selects RX12 yX12_aLine yX12_aLine ∈ ax_good := ax_gd (tbs (pv4 (List.mem_of_getElem? (i := 10) rfl))) rfl
theorem mlX12_273 : ax_MV RX12 273 iX12_aLine 12 0 := ⟨cbX12_aLine, ⟨TX12, 45, rfl, by decide⟩, ax_gd (tb7 (List.mem_of_getElem? (i := 26) rfl)) rfl, imX12_aLine, seX12_aLine⟩
theorem flX12_276 : ax_FL RX12 276 12 27 45 false := ⟨RX12, TX12, rfl, by decide, by decide, ggX12, tyX12_ok, nmX12, ax_gd (tb5 (List.mem_of_getElem? (i := 223) rfl)) rfl, rfl⟩
theorem flX12_279 : ax_FL RX12 279 12 16 45 false := ⟨RX12, TX12, rfl, by decide, by decide, ggX12, tyX12_ok, nmX12, ax_gd (tb5 (List.mem_of_getElem? (i := 212) rfl)) rfl, rfl⟩
theorem mlX12_282 : ax_MS RX12 282 iX12_greatestOf 1 ∨ ∃ host, ax_MSN RX12 282 iX12_greatestOf host 1 := Or.inl ⟨cbX12_greatestOf, ax_gd (tb7 (List.mem_of_getElem? (i := 19) rfl)) rfl, ax_gd (tb7 (List.mem_of_getElem? (i := 20) rfl)) rfl⟩
theorem imX12_number : Cond.instanceMethod yX12_number ∈ ax_good := ax_gd (tb7 (List.mem_of_getElem? (i := 5) rfl)) rfl
theorem seX12_number : Cond.selects RX12 yX12_number yX12_number ∈ ax_good := ax_gd (tbs (pv4 (List.mem_of_getElem? (i := 5) rfl))) rfl
theorem mlX12_285 : ax_MV RX12 285 iX12_number 12 2 := ⟨cbX12_number, ⟨TX12, 45, rfl, by decide⟩, ax_gd (tb7 (List.mem_of_getElem? (i := 3) rfl)) rfl, imX12_number, seX12_number⟩
theorem imX12_tells : Cond.instanceMethod yX12_tells ∈ ax_good := ax_gd (tb7 (List.mem_of_getElem? (i := 13) rfl)) rfl
theorem seX12_tells : Cond.selects RX12 yX12_tells yX12_tells ∈ ax_good := ax_gd (tbs (pv4 (List.mem_of_getElem? (i := 7) rfl))) rfl
theorem mlX12_289 : ax_MV RX12 289 iX12_tells 12 3 := ⟨cbX12_tells, ⟨TX12, 45, rfl, by decide⟩, ax_gd (tb7 (List.mem_of_getElem? (i := 11) rfl)) rfl, imX12_tells, seX12_tells⟩
theorem imX12_someSteps : Cond.instanceMethod yX12_someSteps ∈ ax_good := ax_gd (tb6 (List.mem_of_getElem? (i := 233) rfl)) rfl
theorem seX12_someSteps : Cond.selects RX12 yX12_someSteps yX12_someSteps ∈ ax_good := ax_gd (tbs (pv4 (List.mem_of_getElem? (i := 2) rfl))) rfl
theorem mlX12_292 : ax_MV RX12 292 iX12_someSteps 12 1 := ⟨cbX12_someSteps, ⟨TX12, 45, rfl, by decide⟩, ax_gd (tb6 (List.mem_of_getElem? (i := 231) rfl)) rfl, imX12_someSteps, seX12_someSteps⟩
theorem imX12_someAgain : Cond.instanceMethod yX12_someAgain ∈ ax_good := ax_gd (tb6 (List.mem_of_getElem? (i := 237) rfl)) rfl
theorem seX12_someAgain : Cond.selects RX12 yX12_someAgain yX12_someAgain ∈ ax_good := ax_gd (tbs (pv4 (List.mem_of_getElem? (i := 3) rfl))) rfl
theorem mlX12_295 : ax_MV RX12 295 iX12_someAgain 12 1 := ⟨cbX12_someAgain, ⟨TX12, 45, rfl, by decide⟩, ax_gd (tb6 (List.mem_of_getElem? (i := 235) rfl)) rfl, imX12_someAgain, seX12_someAgain⟩
theorem imX12_aStep : Cond.instanceMethod yX12_aStep ∈ ax_good := ax_gd (tb7 (List.mem_of_getElem? (i := 17) rfl)) rfl
theorem seX12_aStep : Cond.selects RX12 yX12_aStep yX12_aStep ∈ ax_good := ax_gd (tbs (pv4 (List.mem_of_getElem? (i := 8) rfl))) rfl
theorem mlX12_298 : ax_MV RX12 298 iX12_aStep 12 0 := ⟨cbX12_aStep, ⟨TX12, 45, rfl, by decide⟩, ax_gd (tb7 (List.mem_of_getElem? (i := 15) rfl)) rfl, imX12_aStep, seX12_aStep⟩
theorem imX12_wrongHere : Cond.instanceMethod yX12_wrongHere ∈ ax_good := ax_gd (tb6 (List.mem_of_getElem? (i := 160) rfl)) rfl
theorem seX12_wrongHere : Cond.selects RX12 yX12_wrongHere yX12_wrongHere ∈ ax_good := ax_gd (tbs (pv3 (List.mem_of_getElem? (i := 8) rfl))) rfl
theorem mlX12_301 : ax_MV RX12 301 iX12_wrongHere 12 2 := ⟨cbX12_wrongHere, ⟨TX12, 45, rfl, by decide⟩, ax_gd (tb6 (List.mem_of_getElem? (i := 158) rfl)) rfl, imX12_wrongHere, seX12_wrongHere⟩
theorem imX12_readsShape : Cond.instanceMethod yX12_readsShape ∈ ax_good := ax_gd (tb6 (List.mem_of_getElem? (i := 156) rfl)) rfl
theorem seX12_readsShape : Cond.selects RX12 yX12_readsShape yX12_readsShape ∈ ax_good := ax_gd (tbs (pv3 (List.mem_of_getElem? (i := 7) rfl))) rfl
theorem mlX12_304 : ax_MV RX12 304 iX12_readsShape 12 0 := ⟨cbX12_readsShape, ⟨TX12, 45, rfl, by decide⟩, ax_gd (tb6 (List.mem_of_getElem? (i := 154) rfl)) rfl, imX12_readsShape, seX12_readsShape⟩
theorem imX12_readsDrill : Cond.instanceMethod yX12_readsDrill ∈ ax_good := ax_gd (tb6 (List.mem_of_getElem? (i := 229) rfl)) rfl
theorem seX12_readsDrill : Cond.selects RX12 yX12_readsDrill yX12_readsDrill ∈ ax_good := ax_gd (tbs (pv4 (List.mem_of_getElem? (i := 1) rfl))) rfl
theorem mlX12_307 : ax_MV RX12 307 iX12_readsDrill 12 0 := ⟨cbX12_readsDrill, ⟨TX12, 45, rfl, by decide⟩, ax_gd (tb6 (List.mem_of_getElem? (i := 227) rfl)) rfl, imX12_readsDrill, seX12_readsDrill⟩
theorem imX12_readsLaw : Cond.instanceMethod yX12_readsLaw ∈ ax_good := ax_gd (tb7 (List.mem_of_getElem? (i := 24) rfl)) rfl
theorem seX12_readsLaw : Cond.selects RX12 yX12_readsLaw yX12_readsLaw ∈ ax_good := ax_gd (tbs (pv4 (List.mem_of_getElem? (i := 9) rfl))) rfl
theorem mlX12_310 : ax_MV RX12 310 iX12_readsLaw 12 0 := ⟨cbX12_readsLaw, ⟨TX12, 45, rfl, by decide⟩, ax_gd (tb7 (List.mem_of_getElem? (i := 22) rfl)) rfl, imX12_readsLaw, seX12_readsLaw⟩
theorem flX12_313 : ax_FL RX12 313 12 24 45 false := ⟨RX12, TX12, rfl, by decide, by decide, ggX12, tyX12_ok, nmX12, ax_gd (tb5 (List.mem_of_getElem? (i := 220) rfl)) rfl, rfl⟩
theorem imX12_reads : Cond.instanceMethod yX12_reads ∈ ax_good := ax_gd (tb6 (List.mem_of_getElem? (i := 152) rfl)) rfl
theorem seX12_reads : Cond.selects RX12 yX12_reads yX12_reads ∈ ax_good := ax_gd (tbs (pv3 (List.mem_of_getElem? (i := 6) rfl))) rfl
theorem mlX12_316 : ax_MV RX12 316 iX12_reads 12 1 := ⟨cbX12_reads, ⟨TX12, 45, rfl, by decide⟩, ax_gd (tb6 (List.mem_of_getElem? (i := 150) rfl)) rfl, imX12_reads, seX12_reads⟩
theorem imX12_putsLaw : Cond.instanceMethod yX12_putsLaw ∈ ax_good := ax_gd (tb7 (List.mem_of_getElem? (i := 64) rfl)) rfl
theorem seX12_putsLaw : Cond.selects RX12 yX12_putsLaw yX12_putsLaw ∈ ax_good := ax_gd (tbs (pv5 (List.mem_of_getElem? (i := 3) rfl))) rfl
theorem mlX12_319 : ax_MV RX12 319 iX12_putsLaw 12 1 := ⟨cbX12_putsLaw, ⟨TX12, 45, rfl, by decide⟩, ax_gd (tb7 (List.mem_of_getElem? (i := 62) rfl)) rfl, imX12_putsLaw, seX12_putsLaw⟩
theorem imX12_putsDrill : Cond.instanceMethod yX12_putsDrill ∈ ax_good := ax_gd (tb7 (List.mem_of_getElem? (i := 68) rfl)) rfl
theorem seX12_putsDrill : Cond.selects RX12 yX12_putsDrill yX12_putsDrill ∈ ax_good := ax_gd (tbs (pv5 (List.mem_of_getElem? (i := 4) rfl))) rfl
theorem mlX12_322 : ax_MV RX12 322 iX12_putsDrill 12 0 := ⟨cbX12_putsDrill, ⟨TX12, 45, rfl, by decide⟩, ax_gd (tb7 (List.mem_of_getElem? (i := 66) rfl)) rfl, imX12_putsDrill, seX12_putsDrill⟩
theorem imX12_putsShape : Cond.instanceMethod yX12_putsShape ∈ ax_good := ax_gd (tb7 (List.mem_of_getElem? (i := 72) rfl)) rfl
theorem seX12_putsShape : Cond.selects RX12 yX12_putsShape yX12_putsShape ∈ ax_good := ax_gd (tbs (pv5 (List.mem_of_getElem? (i := 5) rfl))) rfl
theorem mlX12_325 : ax_MV RX12 325 iX12_putsShape 12 1 := ⟨cbX12_putsShape, ⟨TX12, 45, rfl, by decide⟩, ax_gd (tb7 (List.mem_of_getElem? (i := 70) rfl)) rfl, imX12_putsShape, seX12_putsShape⟩
theorem mlX12_328 : ax_MS RX12 328 iX12_both 3 ∨ ∃ host, ax_MSN RX12 328 iX12_both host 3 := Or.inl ⟨cbX12_both, ax_gd (tb7 (List.mem_of_getElem? (i := 228) rfl)) rfl, ax_gd (tb7 (List.mem_of_getElem? (i := 229) rfl)) rfl⟩
theorem imX12_comesTo : Cond.instanceMethod yX12_comesTo ∈ ax_good := ax_gd (tb7 (List.mem_of_getElem? (i := 226) rfl)) rfl
theorem seX12_comesTo : Cond.selects RX12 yX12_comesTo yX12_comesTo ∈ ax_good := ax_gd (tbs (pv7 (List.mem_of_getElem? (i := 1) rfl))) rfl
theorem mlX12_331 : ax_MV RX12 331 iX12_comesTo 12 3 := ⟨cbX12_comesTo, ⟨TX12, 45, rfl, by decide⟩, ax_gd (tb7 (List.mem_of_getElem? (i := 224) rfl)) rfl, imX12_comesTo, seX12_comesTo⟩
theorem mlX12_334 : ax_MS RX12 334 iX12_lesser 2 ∨ ∃ host, ax_MSN RX12 334 iX12_lesser host 2 := Or.inl ⟨cbX12_lesser, ax_gd (tb7 (List.mem_of_getElem? (i := 122) rfl)) rfl, ax_gd (tb7 (List.mem_of_getElem? (i := 123) rfl)) rfl⟩
theorem mlX12_337 : ax_MS RX12 337 iX12_greater 2 ∨ ∃ host, ax_MSN RX12 337 iX12_greater host 2 := Or.inl ⟨cbX12_greater, ax_gd (tb7 (List.mem_of_getElem? (i := 165) rfl)) rfl, ax_gd (tb7 (List.mem_of_getElem? (i := 166) rfl)) rfl⟩
theorem imX12_isTied : Cond.instanceMethod yX12_isTied ∈ ax_good := ax_gd (tb7 (List.mem_of_getElem? (i := 100) rfl)) rfl
theorem seX12_isTied : Cond.selects RX12 yX12_isTied yX12_isTied ∈ ax_good := ax_gd (tbs (pv5 (List.mem_of_getElem? (i := 9) rfl))) rfl
theorem mlX12_340 : ax_MV RX12 340 iX12_isTied 12 2 := ⟨cbX12_isTied, ⟨TX12, 45, rfl, by decide⟩, ax_gd (tb7 (List.mem_of_getElem? (i := 98) rfl)) rfl, imX12_isTied, seX12_isTied⟩
theorem imX12_habitFacts : Cond.instanceMethod yX12_habitFacts ∈ ax_good := ax_gd (tb7 (List.mem_of_getElem? (i := 210) rfl)) rfl
theorem seX12_habitFacts : Cond.selects RX12 yX12_habitFacts yX12_habitFacts ∈ ax_good := ax_gd (tbs (pv6 (List.mem_of_getElem? (i := 13) rfl))) rfl
theorem mlX12_343 : ax_MV RX12 343 iX12_habitFacts 12 5 := ⟨cbX12_habitFacts, ⟨TX12, 45, rfl, by decide⟩, ax_gd (tb7 (List.mem_of_getElem? (i := 208) rfl)) rfl, imX12_habitFacts, seX12_habitFacts⟩
theorem imX12_beside : Cond.instanceMethod yX12_beside ∈ ax_good := ax_gd (tb7 (List.mem_of_getElem? (i := 214) rfl)) rfl
theorem seX12_beside : Cond.selects RX12 yX12_beside yX12_beside ∈ ax_good := ax_gd (tbs (pv6 (List.mem_of_getElem? (i := 14) rfl))) rfl
theorem mlX12_346 : ax_MV RX12 346 iX12_beside 12 2 := ⟨cbX12_beside, ⟨TX12, 45, rfl, by decide⟩, ax_gd (tb7 (List.mem_of_getElem? (i := 212) rfl)) rfl, imX12_beside, seX12_beside⟩
theorem imX12_tiedMany : Cond.instanceMethod yX12_tiedMany ∈ ax_good := ax_gd (tb7 (List.mem_of_getElem? (i := 218) rfl)) rfl
theorem seX12_tiedMany : Cond.selects RX12 yX12_tiedMany yX12_tiedMany ∈ ax_good := ax_gd (tbs (pv6 (List.mem_of_getElem? (i := 15) rfl))) rfl
theorem mlX12_348 : ax_MV RX12 348 iX12_tiedMany 12 1 := ⟨cbX12_tiedMany, ⟨TX12, 45, rfl, by decide⟩, ax_gd (tb7 (List.mem_of_getElem? (i := 216) rfl)) rfl, imX12_tiedMany, seX12_tiedMany⟩
theorem imX12_lawSays : Cond.instanceMethod yX12_lawSays ∈ ax_good := ax_gd (tb7 (List.mem_of_getElem? (i := 222) rfl)) rfl
theorem seX12_lawSays : Cond.selects RX12 yX12_lawSays yX12_lawSays ∈ ax_good := ax_gd (tbs (pv7 (List.mem_of_getElem? (i := 0) rfl))) rfl
theorem mlX12_351 : ax_MV RX12 351 iX12_lawSays 12 3 := ⟨cbX12_lawSays, ⟨TX12, 45, rfl, by decide⟩, ax_gd (tb7 (List.mem_of_getElem? (i := 220) rfl)) rfl, imX12_lawSays, seX12_lawSays⟩
theorem imX12_habitOf : Cond.instanceMethod yX12_habitOf ∈ ax_good := ax_gd (tb7 (List.mem_of_getElem? (i := 120) rfl)) rfl
theorem seX12_habitOf : Cond.selects RX12 yX12_habitOf yX12_habitOf ∈ ax_good := ax_gd (tbs (pv5 (List.mem_of_getElem? (i := 14) rfl))) rfl
theorem mlX12_354 : ax_MV RX12 354 iX12_habitOf 12 3 := ⟨cbX12_habitOf, ⟨TX12, 45, rfl, by decide⟩, ax_gd (tb7 (List.mem_of_getElem? (i := 118) rfl)) rfl, imX12_habitOf, seX12_habitOf⟩
theorem imX12_needWith : Cond.instanceMethod yX12_needWith ∈ ax_good := ax_gd (tb7 (List.mem_of_getElem? (i := 206) rfl)) rfl
theorem seX12_needWith : Cond.selects RX12 yX12_needWith yX12_needWith ∈ ax_good := ax_gd (tbs (pv6 (List.mem_of_getElem? (i := 12) rfl))) rfl
theorem mlX12_357 : ax_MV RX12 357 iX12_needWith 12 5 := ⟨cbX12_needWith, ⟨TX12, 45, rfl, by decide⟩, ax_gd (tb7 (List.mem_of_getElem? (i := 204) rfl)) rfl, imX12_needWith, seX12_needWith⟩
theorem imX12_habitsAt : Cond.instanceMethod yX12_habitsAt ∈ ax_good := ax_gd (tb8 (List.mem_of_getElem? (i := 1) rfl)) rfl
theorem seX12_habitsAt : Cond.selects RX12 yX12_habitsAt yX12_habitsAt ∈ ax_good := ax_gd (tbs (pv7 (List.mem_of_getElem? (i := 4) rfl))) rfl
theorem mlX12_361 : ax_MV RX12 361 iX12_habitsAt 12 2 := ⟨cbX12_habitsAt, ⟨TX12, 45, rfl, by decide⟩, ax_gd (tb7 (List.mem_of_getElem? (i := 239) rfl)) rfl, imX12_habitsAt, seX12_habitsAt⟩
theorem imX12_strength : Cond.instanceMethod yX12_strength ∈ ax_good := ax_gd (tb7 (List.mem_of_getElem? (i := 237) rfl)) rfl
theorem seX12_strength : Cond.selects RX12 yX12_strength yX12_strength ∈ ax_good := ax_gd (tbs (pv7 (List.mem_of_getElem? (i := 3) rfl))) rfl
theorem mlX12_364 : ax_MV RX12 364 iX12_strength 12 2 := ⟨cbX12_strength, ⟨TX12, 45, rfl, by decide⟩, ax_gd (tb7 (List.mem_of_getElem? (i := 235) rfl)) rfl, imX12_strength, seX12_strength⟩
theorem imX12_isPlace : Cond.instanceMethod yX12_isPlace ∈ ax_good := ax_gd (tb7 (List.mem_of_getElem? (i := 92) rfl)) rfl
theorem seX12_isPlace : Cond.selects RX12 yX12_isPlace yX12_isPlace ∈ ax_good := ax_gd (tbs (pv5 (List.mem_of_getElem? (i := 7) rfl))) rfl
theorem mlX12_367 : ax_MV RX12 367 iX12_isPlace 12 2 := ⟨cbX12_isPlace, ⟨TX12, 45, rfl, by decide⟩, ax_gd (tb7 (List.mem_of_getElem? (i := 90) rfl)) rfl, imX12_isPlace, seX12_isPlace⟩
theorem imX12_more : Cond.instanceMethod yX12_more ∈ ax_good := ax_gd (tb7 (List.mem_of_getElem? (i := 116) rfl)) rfl
theorem seX12_more : Cond.selects RX12 yX12_more yX12_more ∈ ax_good := ax_gd (tbs (pv5 (List.mem_of_getElem? (i := 13) rfl))) rfl
theorem mlX12_370 : ax_MV RX12 370 iX12_more 12 4 := ⟨cbX12_more, ⟨TX12, 45, rfl, by decide⟩, ax_gd (tb7 (List.mem_of_getElem? (i := 114) rfl)) rfl, imX12_more, seX12_more⟩
theorem imX12_notes : Cond.instanceMethod yX12_notes ∈ ax_good := ax_gd (tb7 (List.mem_of_getElem? (i := 127) rfl)) rfl
theorem seX12_notes : Cond.selects RX12 yX12_notes yX12_notes ∈ ax_good := ax_gd (tbs (pv5 (List.mem_of_getElem? (i := 15) rfl))) rfl
theorem mlX12_373 : ax_MV RX12 373 iX12_notes 12 5 := ⟨cbX12_notes, ⟨TX12, 45, rfl, by decide⟩, ax_gd (tb7 (List.mem_of_getElem? (i := 125) rfl)) rfl, imX12_notes, seX12_notes⟩
theorem imX12_canTie : Cond.instanceMethod yX12_canTie ∈ ax_good := ax_gd (tb7 (List.mem_of_getElem? (i := 88) rfl)) rfl
theorem seX12_canTie : Cond.selects RX12 yX12_canTie yX12_canTie ∈ ax_good := ax_gd (tbs (pv5 (List.mem_of_getElem? (i := 6) rfl))) rfl
theorem mlX12_376 : ax_MV RX12 376 iX12_canTie 12 3 := ⟨cbX12_canTie, ⟨TX12, 45, rfl, by decide⟩, ax_gd (tb7 (List.mem_of_getElem? (i := 86) rfl)) rfl, imX12_canTie, seX12_canTie⟩
theorem imX12_keeps : Cond.instanceMethod yX12_keeps ∈ ax_good := ax_gd (tb7 (List.mem_of_getElem? (i := 108) rfl)) rfl
theorem seX12_keeps : Cond.selects RX12 yX12_keeps yX12_keeps ∈ ax_good := ax_gd (tbs (pv5 (List.mem_of_getElem? (i := 11) rfl))) rfl
theorem mlX12_379 : ax_MV RX12 379 iX12_keeps 12 0 := ⟨cbX12_keeps, ⟨TX12, 45, rfl, by decide⟩, ax_gd (tb7 (List.mem_of_getElem? (i := 106) rfl)) rfl, imX12_keeps, seX12_keeps⟩
theorem imX12_ties : Cond.instanceMethod yX12_ties ∈ ax_good := ax_gd (tb7 (List.mem_of_getElem? (i := 112) rfl)) rfl
theorem seX12_ties : Cond.selects RX12 yX12_ties yX12_ties ∈ ax_good := ax_gd (tbs (pv5 (List.mem_of_getElem? (i := 12) rfl))) rfl
theorem mlX12_382 : ax_MV RX12 382 iX12_ties 12 4 := ⟨cbX12_ties, ⟨TX12, 45, rfl, by decide⟩, ax_gd (tb7 (List.mem_of_getElem? (i := 110) rfl)) rfl, imX12_ties, seX12_ties⟩
theorem imX12_callOf : Cond.instanceMethod yX12_callOf ∈ ax_good := ax_gd (tb7 (List.mem_of_getElem? (i := 143) rfl)) rfl
theorem seX12_callOf : Cond.selects RX12 yX12_callOf yX12_callOf ∈ ax_good := ax_gd (tbs (pv6 (List.mem_of_getElem? (i := 1) rfl))) rfl
theorem mlX12_384 : ax_MV RX12 384 iX12_callOf 12 2 := ⟨cbX12_callOf, ⟨TX12, 45, rfl, by decide⟩, ax_gd (tb7 (List.mem_of_getElem? (i := 141) rfl)) rfl, imX12_callOf, seX12_callOf⟩
theorem imX12_wets : Cond.instanceMethod yX12_wets ∈ ax_good := ax_gd (tb7 (List.mem_of_getElem? (i := 139) rfl)) rfl
theorem seX12_wets : Cond.selects RX12 yX12_wets yX12_wets ∈ ax_good := ax_gd (tbs (pv6 (List.mem_of_getElem? (i := 0) rfl))) rfl
theorem mlX12_387 : ax_MV RX12 387 iX12_wets 12 2 := ⟨cbX12_wets, ⟨TX12, 45, rfl, by decide⟩, ax_gd (tb7 (List.mem_of_getElem? (i := 137) rfl)) rfl, imX12_wets, seX12_wets⟩
theorem imX12_copies : Cond.instanceMethod yX12_copies ∈ ax_good := ax_gd (tb7 (List.mem_of_getElem? (i := 155) rfl)) rfl
theorem seX12_copies : Cond.selects RX12 yX12_copies yX12_copies ∈ ax_good := ax_gd (tbs (pv6 (List.mem_of_getElem? (i := 3) rfl))) rfl
theorem mlX12_390 : ax_MV RX12 390 iX12_copies 12 4 := ⟨cbX12_copies, ⟨TX12, 45, rfl, by decide⟩, ax_gd (tb7 (List.mem_of_getElem? (i := 153) rfl)) rfl, imX12_copies, seX12_copies⟩
theorem imX12_clears : Cond.instanceMethod yX12_clears ∈ ax_good := ax_gd (tb7 (List.mem_of_getElem? (i := 159) rfl)) rfl
theorem seX12_clears : Cond.selects RX12 yX12_clears yX12_clears ∈ ax_good := ax_gd (tbs (pv6 (List.mem_of_getElem? (i := 4) rfl))) rfl
theorem mlX12_393 : ax_MV RX12 393 iX12_clears 12 2 := ⟨cbX12_clears, ⟨TX12, 45, rfl, by decide⟩, ax_gd (tb7 (List.mem_of_getElem? (i := 157) rfl)) rfl, imX12_clears, seX12_clears⟩
theorem imX12_halves : Cond.instanceMethod yX12_halves ∈ ax_good := ax_gd (tb7 (List.mem_of_getElem? (i := 163) rfl)) rfl
theorem seX12_halves : Cond.selects RX12 yX12_halves yX12_halves ∈ ax_good := ax_gd (tbs (pv6 (List.mem_of_getElem? (i := 5) rfl))) rfl
theorem mlX12_396 : ax_MV RX12 396 iX12_halves 12 2 := ⟨cbX12_halves, ⟨TX12, 45, rfl, by decide⟩, ax_gd (tb7 (List.mem_of_getElem? (i := 161) rfl)) rfl, imX12_halves, seX12_halves⟩
theorem imX12_parts : Cond.instanceMethod yX12_parts ∈ ax_good := ax_gd (tb7 (List.mem_of_getElem? (i := 151) rfl)) rfl
theorem seX12_parts : Cond.selects RX12 yX12_parts yX12_parts ∈ ax_good := ax_gd (tbs (pv6 (List.mem_of_getElem? (i := 2) rfl))) rfl
theorem mlX12_399 : ax_MV RX12 399 iX12_parts 12 2 := ⟨cbX12_parts, ⟨TX12, 45, rfl, by decide⟩, ax_gd (tb7 (List.mem_of_getElem? (i := 149) rfl)) rfl, imX12_parts, seX12_parts⟩
theorem imX12_sinceBoth : Cond.instanceMethod yX12_sinceBoth ∈ ax_good := ax_gd (tb7 (List.mem_of_getElem? (i := 174) rfl)) rfl
theorem seX12_sinceBoth : Cond.selects RX12 yX12_sinceBoth yX12_sinceBoth ∈ ax_good := ax_gd (tbs (pv6 (List.mem_of_getElem? (i := 6) rfl))) rfl
theorem mlX12_402 : ax_MV RX12 402 iX12_sinceBoth 12 5 := ⟨cbX12_sinceBoth, ⟨TX12, 45, rfl, by decide⟩, ax_gd (tb7 (List.mem_of_getElem? (i := 172) rfl)) rfl, imX12_sinceBoth, seX12_sinceBoth⟩
theorem imX12_isAhead : Cond.instanceMethod yX12_isAhead ∈ ax_good := ax_gd (tb7 (List.mem_of_getElem? (i := 198) rfl)) rfl
theorem seX12_isAhead : Cond.selects RX12 yX12_isAhead yX12_isAhead ∈ ax_good := ax_gd (tbs (pv6 (List.mem_of_getElem? (i := 10) rfl))) rfl
theorem mlX12_405 : ax_MV RX12 405 iX12_isAhead 12 3 := ⟨cbX12_isAhead, ⟨TX12, 45, rfl, by decide⟩, ax_gd (tb7 (List.mem_of_getElem? (i := 196) rfl)) rfl, imX12_isAhead, seX12_isAhead⟩
theorem imX12_laysRow : Cond.instanceMethod yX12_laysRow ∈ ax_good := ax_gd (tb7 (List.mem_of_getElem? (i := 194) rfl)) rfl
theorem seX12_laysRow : Cond.selects RX12 yX12_laysRow yX12_laysRow ∈ ax_good := ax_gd (tbs (pv6 (List.mem_of_getElem? (i := 9) rfl))) rfl
theorem mlX12_408 : ax_MV RX12 408 iX12_laysRow 12 1 := ⟨cbX12_laysRow, ⟨TX12, 45, rfl, by decide⟩, ax_gd (tb7 (List.mem_of_getElem? (i := 192) rfl)) rfl, imX12_laysRow, seX12_laysRow⟩
theorem flX12_411 : ax_FL RX12 411 12 30 45 false := ⟨RX12, TX12, rfl, by decide, by decide, ggX12, tyX12_ok, nmX12, ax_gd (tb5 (List.mem_of_getElem? (i := 226) rfl)) rfl, rfl⟩
theorem flX12_414 : ax_FL RX12 414 12 31 45 false := ⟨RX12, TX12, rfl, by decide, by decide, ggX12, tyX12_ok, nmX12, ax_gd (tb5 (List.mem_of_getElem? (i := 227) rfl)) rfl, rfl⟩
theorem flX12_417 : ax_FL RX12 417 12 32 45 false := ⟨RX12, TX12, rfl, by decide, by decide, ggX12, tyX12_ok, nmX12, ax_gd (tb5 (List.mem_of_getElem? (i := 228) rfl)) rfl, rfl⟩
theorem imX12_needOf : Cond.instanceMethod yX12_needOf ∈ ax_good := ax_gd (tb7 (List.mem_of_getElem? (i := 202) rfl)) rfl
theorem seX12_needOf : Cond.selects RX12 yX12_needOf yX12_needOf ∈ ax_good := ax_gd (tbs (pv6 (List.mem_of_getElem? (i := 11) rfl))) rfl
theorem mlX12_420 : ax_MV RX12 420 iX12_needOf 12 3 := ⟨cbX12_needOf, ⟨TX12, 45, rfl, by decide⟩, ax_gd (tb7 (List.mem_of_getElem? (i := 200) rfl)) rfl, imX12_needOf, seX12_needOf⟩
theorem imX12_weakest : Cond.instanceMethod yX12_weakest ∈ ax_good := ax_gd (tb7 (List.mem_of_getElem? (i := 233) rfl)) rfl
theorem seX12_weakest : Cond.selects RX12 yX12_weakest yX12_weakest ∈ ax_good := ax_gd (tbs (pv7 (List.mem_of_getElem? (i := 2) rfl))) rfl
theorem mlX12_423 : ax_MV RX12 423 iX12_weakest 12 1 := ⟨cbX12_weakest, ⟨TX12, 45, rfl, by decide⟩, ax_gd (tb7 (List.mem_of_getElem? (i := 231) rfl)) rfl, imX12_weakest, seX12_weakest⟩
theorem flX12_426 : ax_FL RX12 426 12 33 45 false := ⟨RX12, TX12, rfl, by decide, by decide, ggX12, tyX12_ok, nmX12, ax_gd (tb5 (List.mem_of_getElem? (i := 229) rfl)) rfl, rfl⟩
theorem imX12_stretches : Cond.instanceMethod yX12_stretches ∈ ax_good := ax_gd (tb7 (List.mem_of_getElem? (i := 190) rfl)) rfl
theorem seX12_stretches : Cond.selects RX12 yX12_stretches yX12_stretches ∈ ax_good := ax_gd (tbs (pv6 (List.mem_of_getElem? (i := 8) rfl))) rfl
theorem mlX12_429 : ax_MV RX12 429 iX12_stretches 12 2 := ⟨cbX12_stretches, ⟨TX12, 45, rfl, by decide⟩, ax_gd (tb7 (List.mem_of_getElem? (i := 188) rfl)) rfl, imX12_stretches, seX12_stretches⟩
theorem imX12_pulls : Cond.instanceMethod yX12_pulls ∈ ax_good := ax_gd (tb7 (List.mem_of_getElem? (i := 186) rfl)) rfl
theorem seX12_pulls : Cond.selects RX12 yX12_pulls yX12_pulls ∈ ax_good := ax_gd (tbs (pv6 (List.mem_of_getElem? (i := 7) rfl))) rfl
theorem mlX12_432 : ax_MV RX12 432 iX12_pulls 12 2 := ⟨cbX12_pulls, ⟨TX12, 45, rfl, by decide⟩, ax_gd (tb7 (List.mem_of_getElem? (i := 184) rfl)) rfl, imX12_pulls, seX12_pulls⟩
theorem imX12_lossOf : Cond.instanceMethod yX12_lossOf ∈ ax_good := ax_gd (tb8 (List.mem_of_getElem? (i := 17) rfl)) rfl
theorem seX12_lossOf : Cond.selects RX12 yX12_lossOf yX12_lossOf ∈ ax_good := ax_gd (tbs (pv7 (List.mem_of_getElem? (i := 7) rfl))) rfl
theorem mlX12_435 : ax_MV RX12 435 iX12_lossOf 12 3 := ⟨cbX12_lossOf, ⟨TX12, 45, rfl, by decide⟩, ax_gd (tb8 (List.mem_of_getElem? (i := 15) rfl)) rfl, imX12_lossOf, seX12_lossOf⟩
theorem imX12_forgetsAll : Cond.instanceMethod yX12_forgetsAll ∈ ax_good := ax_gd (tb8 (List.mem_of_getElem? (i := 13) rfl)) rfl
theorem seX12_forgetsAll : Cond.selects RX12 yX12_forgetsAll yX12_forgetsAll ∈ ax_good := ax_gd (tbs (pv7 (List.mem_of_getElem? (i := 6) rfl))) rfl
theorem mlX12_438 : ax_MV RX12 438 iX12_forgetsAll 12 1 := ⟨cbX12_forgetsAll, ⟨TX12, 45, rfl, by decide⟩, ax_gd (tb8 (List.mem_of_getElem? (i := 11) rfl)) rfl, imX12_forgetsAll, seX12_forgetsAll⟩
theorem imX12_draw : Cond.instanceMethod yX12_draw ∈ ax_good := ax_gd (tb8 (List.mem_of_getElem? (i := 21) rfl)) rfl
theorem seX12_draw : Cond.selects RX12 yX12_draw yX12_draw ∈ ax_good := ax_gd (tbs (pv7 (List.mem_of_getElem? (i := 8) rfl))) rfl
theorem mlX12_442 : ax_MV RX12 442 iX12_draw 12 1 := ⟨cbX12_draw, ⟨TX12, 45, rfl, by decide⟩, ax_gd (tb8 (List.mem_of_getElem? (i := 19) rfl)) rfl, imX12_draw, seX12_draw⟩
theorem imX12_ropeSet : Cond.instanceMethod yX12_ropeSet ∈ ax_good := ax_gd (tb8 (List.mem_of_getElem? (i := 27) rfl)) rfl
theorem seX12_ropeSet : Cond.selects RX12 yX12_ropeSet yX12_ropeSet ∈ ax_good := ax_gd (tbs (pv7 (List.mem_of_getElem? (i := 9) rfl))) rfl
theorem mlX12_445 : ax_MV RX12 445 iX12_ropeSet 12 0 := ⟨cbX12_ropeSet, ⟨TX12, 45, rfl, by decide⟩, ax_gd (tb8 (List.mem_of_getElem? (i := 25) rfl)) rfl, imX12_ropeSet, seX12_ropeSet⟩
theorem imX12_aDay : Cond.instanceMethod yX12_aDay ∈ ax_good := ax_gd (tb8 (List.mem_of_getElem? (i := 9) rfl)) rfl
theorem seX12_aDay : Cond.selects RX12 yX12_aDay yX12_aDay ∈ ax_good := ax_gd (tbs (pv7 (List.mem_of_getElem? (i := 5) rfl))) rfl
theorem mlX12_448 : ax_MV RX12 448 iX12_aDay 12 0 := ⟨cbX12_aDay, ⟨TX12, 45, rfl, by decide⟩, ax_gd (tb8 (List.mem_of_getElem? (i := 7) rfl)) rfl, imX12_aDay, seX12_aDay⟩
theorem imX12_isDone : Cond.instanceMethod yX12_isDone ∈ ax_good := ax_gd (tb8 (List.mem_of_getElem? (i := 35) rfl)) rfl
theorem seX12_isDone : Cond.selects RX12 yX12_isDone yX12_isDone ∈ ax_good := ax_gd (tbs (pv7 (List.mem_of_getElem? (i := 10) rfl))) rfl
theorem mlX12_451 : ax_MV RX12 451 iX12_isDone 12 5 := ⟨cbX12_isDone, ⟨TX12, 45, rfl, by decide⟩, ax_gd (tb8 (List.mem_of_getElem? (i := 33) rfl)) rfl, imX12_isDone, seX12_isDone⟩
theorem imX12_allHabits : Cond.instanceMethod yX12_allHabits ∈ ax_good := ax_gd (tb8 (List.mem_of_getElem? (i := 43) rfl)) rfl
theorem seX12_allHabits : Cond.selects RX12 yX12_allHabits yX12_allHabits ∈ ax_good := ax_gd (tbs (pv7 (List.mem_of_getElem? (i := 11) rfl))) rfl
theorem mlX12_455 : ax_MV RX12 455 iX12_allHabits 12 1 := ⟨cbX12_allHabits, ⟨TX12, 45, rfl, by decide⟩, ax_gd (tb8 (List.mem_of_getElem? (i := 41) rfl)) rfl, imX12_allHabits, seX12_allHabits⟩
theorem imX12_laysAside : Cond.instanceMethod yX12_laysAside ∈ ax_good := ax_gd (tb8 (List.mem_of_getElem? (i := 67) rfl)) rfl
theorem seX12_laysAside : Cond.selects RX12 yX12_laysAside yX12_laysAside ∈ ax_good := ax_gd (tbs (pv7 (List.mem_of_getElem? (i := 13) rfl))) rfl
theorem mlX12_458 : ax_MV RX12 458 iX12_laysAside 12 0 := ⟨cbX12_laysAside, ⟨TX12, 45, rfl, by decide⟩, ax_gd (tb8 (List.mem_of_getElem? (i := 65) rfl)) rfl, imX12_laysAside, seX12_laysAside⟩
theorem imX12_putsBack : Cond.instanceMethod yX12_putsBack ∈ ax_good := ax_gd (tb8 (List.mem_of_getElem? (i := 71) rfl)) rfl
theorem seX12_putsBack : Cond.selects RX12 yX12_putsBack yX12_putsBack ∈ ax_good := ax_gd (tbs (pv7 (List.mem_of_getElem? (i := 14) rfl))) rfl
theorem mlX12_461 : ax_MV RX12 461 iX12_putsBack 12 0 := ⟨cbX12_putsBack, ⟨TX12, 45, rfl, by decide⟩, ax_gd (tb8 (List.mem_of_getElem? (i := 69) rfl)) rfl, imX12_putsBack, seX12_putsBack⟩
theorem imX12_wouldBy : Cond.instanceMethod yX12_wouldBy ∈ ax_good := ax_gd (tb8 (List.mem_of_getElem? (i := 63) rfl)) rfl
theorem seX12_wouldBy : Cond.selects RX12 yX12_wouldBy yX12_wouldBy ∈ ax_good := ax_gd (tbs (pv7 (List.mem_of_getElem? (i := 12) rfl))) rfl
theorem mlX12_464 : ax_MV RX12 464 iX12_wouldBy 12 2 := ⟨cbX12_wouldBy, ⟨TX12, 45, rfl, by decide⟩, ax_gd (tb8 (List.mem_of_getElem? (i := 61) rfl)) rfl, imX12_wouldBy, seX12_wouldBy⟩
theorem flX12_467 : ax_FL RX12 467 12 35 45 false := ⟨RX12, TX12, rfl, by decide, by decide, ggX12, tyX12_ok, nmX12, ax_gd (tb5 (List.mem_of_getElem? (i := 231) rfl)) rfl, rfl⟩
theorem imX12_fitsWith : Cond.instanceMethod yX12_fitsWith ∈ ax_good := ax_gd (tb8 (List.mem_of_getElem? (i := 91) rfl)) rfl
theorem seX12_fitsWith : Cond.selects RX12 yX12_fitsWith yX12_fitsWith ∈ ax_good := ax_gd (tbs (pv7 (List.mem_of_getElem? (i := 15) rfl))) rfl
theorem mlX12_470 : ax_MV RX12 470 iX12_fitsWith 12 2 := ⟨cbX12_fitsWith, ⟨TX12, 45, rfl, by decide⟩, ax_gd (tb8 (List.mem_of_getElem? (i := 89) rfl)) rfl, imX12_fitsWith, seX12_fitsWith⟩
theorem imX12_nextForce : Cond.instanceMethod yX12_nextForce ∈ ax_good := ax_gd (tb8 (List.mem_of_getElem? (i := 95) rfl)) rfl
theorem seX12_nextForce : Cond.selects RX12 yX12_nextForce yX12_nextForce ∈ ax_good := ax_gd (tbs (pv8 (List.mem_of_getElem? (i := 0) rfl))) rfl
theorem mlX12_473 : ax_MV RX12 473 iX12_nextForce 12 0 := ⟨cbX12_nextForce, ⟨TX12, 45, rfl, by decide⟩, ax_gd (tb8 (List.mem_of_getElem? (i := 93) rfl)) rfl, imX12_nextForce, seX12_nextForce⟩
theorem mlX12_476 : ax_MV RX12 476 iX12_weak 12 2 := ⟨cbX12_weak, ⟨TX12, 45, rfl, by decide⟩, ax_gd (tb8 (List.mem_of_getElem? (i := 105) rfl)) rfl, imX12_weak, seX12_weak⟩
theorem flX12_479 : ax_FL RX12 479 12 39 45 false := ⟨RX12, TX12, rfl, by decide, by decide, ggX12, tyX12_ok, nmX12, ax_gd (tb5 (List.mem_of_getElem? (i := 235) rfl)) rfl, rfl⟩
theorem mlX12_482 : ax_MS RX12 482 iX12_count 1 ∨ ∃ host, ax_MSN RX12 482 iX12_count host 1 := Or.inl ⟨cbX12_count, ax_gd (tb8 (List.mem_of_getElem? (i := 118) rfl)) rfl, ax_gd (tb8 (List.mem_of_getElem? (i := 119) rfl)) rfl⟩
theorem imX12_yards : Cond.instanceMethod yX12_yards ∈ ax_good := ax_gd (tb8 (List.mem_of_getElem? (i := 116) rfl)) rfl
theorem seX12_yards : Cond.selects RX12 yX12_yards yX12_yards ∈ ax_good := ax_gd (tbs (pv8 (List.mem_of_getElem? (i := 1) rfl))) rfl
theorem mlX12_485 : ax_MV RX12 485 iX12_yards 12 2 := ⟨cbX12_yards, ⟨TX12, 45, rfl, by decide⟩, ax_gd (tb8 (List.mem_of_getElem? (i := 114) rfl)) rfl, imX12_yards, seX12_yards⟩
theorem flX12_488 : ax_FL RX12 488 12 44 45 false := ⟨RX12, TX12, rfl, by decide, by decide, ggX12, tyX12_ok, nmX12, ax_gd (tb6 (List.mem_of_getElem? (i := 0) rfl)) rfl, rfl⟩
theorem imX12_coded : Cond.instanceMethod yX12_coded ∈ ax_good := ax_gd (tb8 (List.mem_of_getElem? (i := 134) rfl)) rfl
theorem seX12_coded : Cond.selects RX12 yX12_coded yX12_coded ∈ ax_good := ax_gd (tbs (pv8 (List.mem_of_getElem? (i := 3) rfl))) rfl
theorem mlX12_491 : ax_MV RX12 491 iX12_coded 12 0 := ⟨cbX12_coded, ⟨TX12, 45, rfl, by decide⟩, ax_gd (tb8 (List.mem_of_getElem? (i := 132) rfl)) rfl, imX12_coded, seX12_coded⟩
theorem flX12_494 : ax_FL RX12 494 12 43 45 false := ⟨RX12, TX12, rfl, by decide, by decide, ggX12, tyX12_ok, nmX12, ax_gd (tb5 (List.mem_of_getElem? (i := 239) rfl)) rfl, rfl⟩
theorem imX12_decodes : Cond.instanceMethod yX12_decodes ∈ ax_good := ax_gd (tb8 (List.mem_of_getElem? (i := 150) rfl)) rfl
theorem seX12_decodes : Cond.selects RX12 yX12_decodes yX12_decodes ∈ ax_good := ax_gd (tbs (pv8 (List.mem_of_getElem? (i := 7) rfl))) rfl
theorem mlX12_497 : ax_MV RX12 497 iX12_decodes 12 1 := ⟨cbX12_decodes, ⟨TX12, 45, rfl, by decide⟩, ax_gd (tb8 (List.mem_of_getElem? (i := 148) rfl)) rfl, imX12_decodes, seX12_decodes⟩
theorem mlX12_500 : ax_MS RX12 500 iX12_goesWith 2 ∨ ∃ host, ax_MSN RX12 500 iX12_goesWith host 2 := Or.inl ⟨cbX12_goesWith, ax_gd (tb8 (List.mem_of_getElem? (i := 152) rfl)) rfl, ax_gd (tb8 (List.mem_of_getElem? (i := 153) rfl)) rfl⟩
theorem imX12_reaches : Cond.instanceMethod yX12_reaches ∈ ax_good := ax_gd (tb8 (List.mem_of_getElem? (i := 138) rfl)) rfl
theorem seX12_reaches : Cond.selects RX12 yX12_reaches yX12_reaches ∈ ax_good := ax_gd (tbs (pv8 (List.mem_of_getElem? (i := 4) rfl))) rfl
theorem mlX12_503 : ax_MV RX12 503 iX12_reaches 12 1 := ⟨cbX12_reaches, ⟨TX12, 45, rfl, by decide⟩, ax_gd (tb8 (List.mem_of_getElem? (i := 136) rfl)) rfl, imX12_reaches, seX12_reaches⟩
theorem imX12_goes : Cond.instanceMethod yX12_goes ∈ ax_good := ax_gd (tb8 (List.mem_of_getElem? (i := 146) rfl)) rfl
theorem seX12_goes : Cond.selects RX12 yX12_goes yX12_goes ∈ ax_good := ax_gd (tbs (pv8 (List.mem_of_getElem? (i := 6) rfl))) rfl
theorem mlX12_506 : ax_MV RX12 506 iX12_goes 12 3 := ⟨cbX12_goes, ⟨TX12, 45, rfl, by decide⟩, ax_gd (tb8 (List.mem_of_getElem? (i := 144) rfl)) rfl, imX12_goes, seX12_goes⟩
theorem imX12_changes : Cond.instanceMethod yX12_changes ∈ ax_good := ax_gd (tb8 (List.mem_of_getElem? (i := 157) rfl)) rfl
theorem seX12_changes : Cond.selects RX12 yX12_changes yX12_changes ∈ ax_good := ax_gd (tbs (pv8 (List.mem_of_getElem? (i := 8) rfl))) rfl
theorem mlX12_509 : ax_MV RX12 509 iX12_changes 12 3 := ⟨cbX12_changes, ⟨TX12, 45, rfl, by decide⟩, ax_gd (tb8 (List.mem_of_getElem? (i := 155) rfl)) rfl, imX12_changes, seX12_changes⟩
theorem imX12_comes : Cond.instanceMethod yX12_comes ∈ ax_good := ax_gd (tb8 (List.mem_of_getElem? (i := 161) rfl)) rfl
theorem seX12_comes : Cond.selects RX12 yX12_comes yX12_comes ∈ ax_good := ax_gd (tbs (pv8 (List.mem_of_getElem? (i := 9) rfl))) rfl
theorem mlX12_512 : ax_MV RX12 512 iX12_comes 12 5 := ⟨cbX12_comes, ⟨TX12, 45, rfl, by decide⟩, ax_gd (tb8 (List.mem_of_getElem? (i := 159) rfl)) rfl, imX12_comes, seX12_comes⟩
theorem mlX12_515 : ax_MS RX12 515 iX12_isShape 1 ∨ ∃ host, ax_MSN RX12 515 iX12_isShape host 1 := Or.inl ⟨cbX12_isShape, ax_gd (tb8 (List.mem_of_getElem? (i := 125) rfl)) rfl, ax_gd (tb8 (List.mem_of_getElem? (i := 126) rfl)) rfl⟩
theorem imX12_shapeCode : Cond.instanceMethod yX12_shapeCode ∈ ax_good := ax_gd (tb8 (List.mem_of_getElem? (i := 130) rfl)) rfl
theorem seX12_shapeCode : Cond.selects RX12 yX12_shapeCode yX12_shapeCode ∈ ax_good := ax_gd (tbs (pv8 (List.mem_of_getElem? (i := 2) rfl))) rfl
theorem mlX12_518 : ax_MV RX12 518 iX12_shapeCode 12 1 := ⟨cbX12_shapeCode, ⟨TX12, 45, rfl, by decide⟩, ax_gd (tb8 (List.mem_of_getElem? (i := 128) rfl)) rfl, imX12_shapeCode, seX12_shapeCode⟩
theorem imX12_movesOn : Cond.instanceMethod yX12_movesOn ∈ ax_good := ax_gd (tb8 (List.mem_of_getElem? (i := 142) rfl)) rfl
theorem seX12_movesOn : Cond.selects RX12 yX12_movesOn yX12_movesOn ∈ ax_good := ax_gd (tbs (pv8 (List.mem_of_getElem? (i := 5) rfl))) rfl
theorem mlX12_521 : ax_MV RX12 521 iX12_movesOn 12 2 := ⟨cbX12_movesOn, ⟨TX12, 45, rfl, by decide⟩, ax_gd (tb8 (List.mem_of_getElem? (i := 140) rfl)) rfl, imX12_movesOn, seX12_movesOn⟩
theorem imX12_markOf : Cond.instanceMethod yX12_markOf ∈ ax_good := ax_gd (tb8 (List.mem_of_getElem? (i := 169) rfl)) rfl
theorem seX12_markOf : Cond.selects RX12 yX12_markOf yX12_markOf ∈ ax_good := ax_gd (tbs (pv8 (List.mem_of_getElem? (i := 10) rfl))) rfl
theorem mlX12_524 : ax_MV RX12 524 iX12_markOf 12 2 := ⟨cbX12_markOf, ⟨TX12, 45, rfl, by decide⟩, ax_gd (tb8 (List.mem_of_getElem? (i := 167) rfl)) rfl, imX12_markOf, seX12_markOf⟩
theorem flX12_527 : ax_FL RX12 527 12 5 45 false := ⟨RX12, TX12, rfl, by decide, by decide, ggX12, tyX12_ok, nmX12, ax_gd (tb5 (List.mem_of_getElem? (i := 201) rfl)) rfl, rfl⟩
theorem mlX2_3 : Cond.methodLink RX2 3 objectInit ∈ ax_good := ax_gd (tb2 (List.mem_of_getElem? (i := 45) rfl)) rfl
theorem flX2_11 : ax_FL RX2 11 2 4 7 true := ⟨RX2, TX2, rfl, by decide, by decide, ggX2, tyX2_ok, nmX2, ax_gd (tb2 (List.mem_of_getElem? (i := 53) rfl)) rfl, rfl⟩
theorem flX2_17 : ax_FL RX2 17 2 5 7 true := ⟨RX2, TX2, rfl, by decide, by decide, ggX2, tyX2_ok, nmX2, ax_gd (tb2 (List.mem_of_getElem? (i := 54) rfl)) rfl, rfl⟩
theorem flX2_20 : ax_FL RX2 20 2 6 7 true := ⟨RX2, TX2, rfl, by decide, by decide, ggX2, tyX2_ok, nmX2, ax_gd (tb2 (List.mem_of_getElem? (i := 55) rfl)) rfl, rfl⟩
theorem flX2_23 : ax_FL RX2 23 2 0 7 true := ⟨RX2, TX2, rfl, by decide, by decide, ggX2, tyX2_ok, nmX2, ax_gd (tb2 (List.mem_of_getElem? (i := 46) rfl)) rfl, rfl⟩
theorem flX2_27 : ax_FL RX2 27 7 6 8 true := ⟨RX7, TX7, rfl, by decide, by decide, ggX7, tyX7_ok, nmX7, ax_gd (tb1 (List.mem_of_getElem? (i := 69) rfl)) rfl, rfl⟩
theorem flX2_32 : ax_FL RX2 32 9 0 7 false := ⟨RX9, TX9, rfl, by decide, by decide, ggX9, tyX9_ok, nmX9, ax_gd (tb1 (List.mem_of_getElem? (i := 95) rfl)) rfl, rfl⟩
theorem flX2_38 : ax_FL RX2 38 7 7 8 true := ⟨RX7, TX7, rfl, by decide, by decide, ggX7, tyX7_ok, nmX7, ax_gd (tb1 (List.mem_of_getElem? (i := 73) rfl)) rfl, rfl⟩
theorem flX2_41 : ax_FL RX2 41 9 4 7 true := ⟨RX9, TX9, rfl, by decide, by decide, ggX9, tyX9_ok, nmX9, ax_gd (tb1 (List.mem_of_getElem? (i := 106) rfl)) rfl, rfl⟩
theorem flX2_44 : ax_FL RX2 44 7 4 8 false := ⟨RX7, TX7, rfl, by decide, by decide, ggX7, tyX7_ok, nmX7, ax_gd (tb1 (List.mem_of_getElem? (i := 62) rfl)) rfl, rfl⟩
theorem imX2_askHabit : Cond.instanceMethod yX2_askHabit ∈ ax_good := ax_gd (tb3 (List.mem_of_getElem? (i := 66) rfl)) rfl
theorem seX2_askHabit : Cond.selects RX2 yX2_askHabit yX2_askHabit ∈ ax_good := ax_gd (tbs (pv1 (List.mem_of_getElem? (i := 4) rfl))) rfl
theorem mlX2_47 : ax_MV RX2 47 iX2_askHabit 2 4 := ⟨cbX2_askHabit, ⟨TX2, 7, rfl, by decide⟩, ax_gd (tb3 (List.mem_of_getElem? (i := 64) rfl)) rfl, imX2_askHabit, seX2_askHabit⟩
theorem imX7_tiesBeside : Cond.instanceMethod yX7_tiesBeside ∈ ax_good := ax_gd (tb3 (List.mem_of_getElem? (i := 69) rfl)) rfl
theorem seX7_tiesBeside : Cond.selects RX7 yX7_tiesBeside yX7_tiesBeside ∈ ax_good := ax_gd (tb3 (List.mem_of_getElem? (i := 70) rfl)) rfl
theorem mlX2_51 : ax_MV RX2 51 iX7_tiesBeside 7 1 := ⟨cbX7_tiesBeside, ⟨TX7, 8, rfl, by decide⟩, ax_gd (tb3 (List.mem_of_getElem? (i := 68) rfl)) rfl, imX7_tiesBeside, seX7_tiesBeside⟩
theorem mlX2_55 : ax_MV RX2 55 iX7_tiesInAll 7 0 := ⟨cbX7_tiesInAll, ⟨TX7, 8, rfl, by decide⟩, ax_gd (tb3 (List.mem_of_getElem? (i := 73) rfl)) rfl, imX7_tiesInAll, seX7_tiesInAll⟩
theorem flX2_59 : ax_FL RX2 59 4 0 9 true := ⟨RX4, TX4, rfl, by decide, by decide, ggX4, tyX4_ok, nmX4, ax_gd (tb1 (List.mem_of_getElem? (i := 196) rfl)) rfl, rfl⟩
theorem imX3_answer : Cond.instanceMethod yX3_answer ∈ ax_good := ax_gd (tb3 (List.mem_of_getElem? (i := 78) rfl)) rfl
theorem seX3_answer : Cond.selects RX3 yX3_answer yX3_answer ∈ ax_good := ax_gd (tb3 (List.mem_of_getElem? (i := 79) rfl)) rfl
theorem mlX2_65 : ax_MV RX2 65 iX3_answer 3 3 := ⟨cbX3_answer, ⟨TX3, 3, rfl, by decide⟩, ax_gd (tb3 (List.mem_of_getElem? (i := 77) rfl)) rfl, imX3_answer, seX3_answer⟩
theorem mlX2_69 : ax_MS RX2 69 iX2_held 2 ∨ ∃ host, ax_MSN RX2 69 iX2_held host 2 := Or.inl ⟨cbX2_held, ax_gd (tb3 (List.mem_of_getElem? (i := 81) rfl)) rfl, ax_gd (tb3 (List.mem_of_getElem? (i := 82) rfl)) rfl⟩
theorem flX2_73 : ax_FL RX2 73 7 1 8 false := ⟨RX7, TX7, rfl, by decide, by decide, ggX7, tyX7_ok, nmX7, ax_gd (tb1 (List.mem_of_getElem? (i := 53) rfl)) rfl, rfl⟩
theorem mlX2_76 : ax_MS RX2 76 iX11_isIn 2 ∨ ∃ host, ax_MSN RX2 76 iX11_isIn host 2 := Or.inr ⟨"RopeMind", cbX11_isIn, by decide +kernel, ax_gd (tb2 (List.mem_of_getElem? (i := 213) rfl)) rfl⟩
theorem flX2_80 : ax_FL RX2 80 7 5 8 true := ⟨RX7, TX7, rfl, by decide, by decide, ggX7, tyX7_ok, nmX7, ax_gd (tb1 (List.mem_of_getElem? (i := 66) rfl)) rfl, rfl⟩
theorem flX2_83 : ax_FL RX2 83 9 5 7 true := ⟨RX9, TX9, rfl, by decide, by decide, ggX9, tyX9_ok, nmX9, ax_gd (tb1 (List.mem_of_getElem? (i := 110) rfl)) rfl, rfl⟩
theorem flX2_86 : ax_FL RX2 86 7 3 8 false := ⟨RX7, TX7, rfl, by decide, by decide, ggX7, tyX7_ok, nmX7, ax_gd (tb1 (List.mem_of_getElem? (i := 59) rfl)) rfl, rfl⟩
theorem imX7_habitsAt : Cond.instanceMethod yX7_habitsAt ∈ ax_good := ax_gd (tb3 (List.mem_of_getElem? (i := 95) rfl)) rfl
theorem seX7_habitsAt : Cond.selects RX7 yX7_habitsAt yX7_habitsAt ∈ ax_good := ax_gd (tb3 (List.mem_of_getElem? (i := 96) rfl)) rfl
theorem mlX2_89 : ax_MV RX2 89 iX7_habitsAt 7 1 := ⟨cbX7_habitsAt, ⟨TX7, 8, rfl, by decide⟩, ax_gd (tb3 (List.mem_of_getElem? (i := 94) rfl)) rfl, imX7_habitsAt, seX7_habitsAt⟩
theorem mlX2_92 : ax_MV RX2 92 iX2_strengthOf 2 3 := ⟨cbX2_strengthOf, ⟨TX2, 7, rfl, by decide⟩, ax_gd (tb3 (List.mem_of_getElem? (i := 89) rfl)) rfl, imX2_strengthOf, seX2_strengthOf⟩
theorem mlX2_96 : ax_MV RX2 96 iX2_lossOf 2 4 := ⟨cbX2_lossOf, ⟨TX2, 7, rfl, by decide⟩, ax_gd (tb3 (List.mem_of_getElem? (i := 160) rfl)) rfl, imX2_lossOf, seX2_lossOf⟩
theorem mlX2_100 : ax_MW RX2 100 Lib.Math.max.name Lib.Math.max.code := ⟨ax_gd (tb3 (List.mem_of_getElem? (i := 164) rfl)) rfl, ax_gd (tb3 (List.mem_of_getElem? (i := 138) rfl)) rfl, ax_gd (tb1 (List.mem_of_getElem? (i := 16) rfl)) rfl, ax_gd (by decide +kernel) rfl⟩
theorem flX2_105 : ax_FL RX2 105 2 1 7 false := ⟨RX2, TX2, rfl, by decide, by decide, ggX2, tyX2_ok, nmX2, ax_gd (tb2 (List.mem_of_getElem? (i := 47) rfl)) rfl, rfl⟩
theorem flX2_108 : ax_FL RX2 108 2 2 7 false := ⟨RX2, TX2, rfl, by decide, by decide, ggX2, tyX2_ok, nmX2, ax_gd (tb2 (List.mem_of_getElem? (i := 49) rfl)) rfl, rfl⟩
theorem flX2_111 : ax_FL RX2 111 2 3 7 false := ⟨RX2, TX2, rfl, by decide, by decide, ggX2, tyX2_ok, nmX2, ax_gd (tb2 (List.mem_of_getElem? (i := 51) rfl)) rfl, rfl⟩
theorem mlX2_114 : ax_MS RX2 114 iJ7_fill_53178 2 ∨ ∃ host, ax_MSN RX2 114 iJ7_fill_53178 host 2 := Or.inl ⟨cbJ7_fill_53178, ax_gd (tb5 (List.mem_of_getElem? (i := 49) rfl)) rfl, ax_gd (tb1 (List.mem_of_getElem? (i := 39) rfl)) rfl⟩
theorem mlX2_120 : ax_MV RX2 120 iX2_needOf 2 4 := ⟨cbX2_needOf, ⟨TX2, 7, rfl, by decide⟩, ax_gd (tb5 (List.mem_of_getElem? (i := 50) rfl)) rfl, imX2_needOf, seX2_needOf⟩
theorem imX2_agreesWithTold : Cond.instanceMethod yX2_agreesWithTold ∈ ax_good := ax_gd (tb5 (List.mem_of_getElem? (i := 53) rfl)) rfl
theorem seX2_agreesWithTold : Cond.selects RX2 yX2_agreesWithTold yX2_agreesWithTold ∈ ax_good := ax_gd (tbs (pv2 (List.mem_of_getElem? (i := 7) rfl))) rfl
theorem mlX2_123 : ax_MV RX2 123 iX2_agreesWithTold 2 2 := ⟨cbX2_agreesWithTold, ⟨TX2, 7, rfl, by decide⟩, ax_gd (tb5 (List.mem_of_getElem? (i := 51) rfl)) rfl, imX2_agreesWithTold, seX2_agreesWithTold⟩
theorem flX2_126 : ax_FL RX2 126 4 6 9 false := ⟨RX4, TX4, rfl, by decide, by decide, ggX4, tyX4_ok, nmX4, ax_gd (tb1 (List.mem_of_getElem? (i := 210) rfl)) rfl, rfl⟩
theorem flX2_129 : ax_FL RX2 129 4 4 9 true := ⟨RX4, TX4, rfl, by decide, by decide, ggX4, tyX4_ok, nmX4, ax_gd (tb1 (List.mem_of_getElem? (i := 204) rfl)) rfl, rfl⟩
theorem flX2_132 : ax_FL RX2 132 4 5 9 true := ⟨RX4, TX4, rfl, by decide, by decide, ggX4, tyX4_ok, nmX4, ax_gd (tb1 (List.mem_of_getElem? (i := 207) rfl)) rfl, rfl⟩
theorem mlX3_5 : Cond.methodLink RX3 5 objectInit ∈ ax_good := ax_gd (tb1 (List.mem_of_getElem? (i := 183) rfl)) rfl
theorem flX3_11 : ax_FL RX3 11 3 2 3 true := ⟨RX3, TX3, rfl, by decide, by decide, ggX3, tyX3_ok, nmX3, ax_gd (tb1 (List.mem_of_getElem? (i := 187) rfl)) rfl, rfl⟩
theorem flX3_15 : ax_FL RX3 15 3 0 3 false := ⟨RX3, TX3, rfl, by decide, by decide, ggX3, tyX3_ok, nmX3, ax_gd (tb1 (List.mem_of_getElem? (i := 184) rfl)) rfl, rfl⟩
theorem flX3_19 : ax_FL RX3 19 3 1 3 false := ⟨RX3, TX3, rfl, by decide, by decide, ggX3, tyX3_ok, nmX3, ax_gd (tb1 (List.mem_of_getElem? (i := 186) rfl)) rfl, rfl⟩
theorem mlX3_22 : ax_CW RX3 22 := ⟨ax_gd (tb4 (List.mem_of_getElem? (i := 158) rfl)) rfl, ax_gd (tb3 (List.mem_of_getElem? (i := 7) rfl)) rfl, ax_gd (tb3 (List.mem_of_getElem? (i := 6) rfl)) rfl, ax_gd (tb1 (List.mem_of_getElem? (i := 15) rfl)) rfl⟩
theorem mlX3_28 : ax_MV RX3 28 iX8_isEnd 8 0 := ⟨cbX8_isEnd, ⟨TX8, 9, rfl, by decide⟩, ax_gd (tb4 (List.mem_of_getElem? (i := 92) rfl)) rfl, imX8_isEnd, seX8_isEnd⟩
theorem imX3_readLine : Cond.instanceMethod yX3_readLine ∈ ax_good := ax_gd (tb4 (List.mem_of_getElem? (i := 98) rfl)) rfl
theorem seX3_readLine : Cond.selects RX3 yX3_readLine yX3_readLine ∈ ax_good := ax_gd (tbs (pv1 (List.mem_of_getElem? (i := 12) rfl))) rfl
theorem mlX3_34 : ax_MV RX3 34 iX3_readLine 3 1 := ⟨cbX3_readLine, ⟨TX3, 3, rfl, by decide⟩, ax_gd (tb4 (List.mem_of_getElem? (i := 96) rfl)) rfl, imX3_readLine, seX3_readLine⟩
theorem mlX3_38 : ax_MV RX3 38 iX8_isWord 8 1 := ⟨cbX8_isWord, ⟨TX8, 9, rfl, by decide⟩, ax_gd (tb4 (List.mem_of_getElem? (i := 100) rfl)) rfl, imX8_isWord, seX8_isWord⟩
theorem mlX3_42 : ax_MV RX3 42 iX8_fail 8 1 := ⟨cbX8_fail, ⟨TX8, 9, rfl, by decide⟩, ax_gd (tb4 (List.mem_of_getElem? (i := 104) rfl)) rfl, imX8_fail, seX8_fail⟩
theorem mlX3_45 : ax_MV RX3 45 iX8_step 8 0 := ⟨cbX8_step, ⟨TX8, 9, rfl, by decide⟩, ax_gd (tb4 (List.mem_of_getElem? (i := 108) rfl)) rfl, imX8_step, seX8_step⟩
theorem imX3_readSum : Cond.instanceMethod yX3_readSum ∈ ax_good := ax_gd (tb4 (List.mem_of_getElem? (i := 114) rfl)) rfl
theorem seX3_readSum : Cond.selects RX3 yX3_readSum yX3_readSum ∈ ax_good := ax_gd (tbs (pv1 (List.mem_of_getElem? (i := 13) rfl))) rfl
theorem mlX3_48 : ax_MV RX3 48 iX3_readSum 3 1 := ⟨cbX3_readSum, ⟨TX3, 3, rfl, by decide⟩, ax_gd (tb4 (List.mem_of_getElem? (i := 112) rfl)) rfl, imX3_readSum, seX3_readSum⟩
theorem imX3_readCheck : Cond.instanceMethod yX3_readCheck ∈ ax_good := ax_gd (tb4 (List.mem_of_getElem? (i := 146) rfl)) rfl
theorem seX3_readCheck : Cond.selects RX3 yX3_readCheck yX3_readCheck ∈ ax_good := ax_gd (tbs (pv2 (List.mem_of_getElem? (i := 1) rfl))) rfl
theorem mlX3_51 : ax_MV RX3 51 iX3_readCheck 3 3 := ⟨cbX3_readCheck, ⟨TX3, 3, rfl, by decide⟩, ax_gd (tb4 (List.mem_of_getElem? (i := 144) rfl)) rfl, imX3_readCheck, seX3_readCheck⟩
theorem imX3_put : Cond.instanceMethod yX3_put ∈ ax_good := ax_gd (tb4 (List.mem_of_getElem? (i := 138) rfl)) rfl
theorem seX3_put : Cond.selects RX3 yX3_put yX3_put ∈ ax_good := ax_gd (tbs (pv2 (List.mem_of_getElem? (i := 0) rfl))) rfl
theorem mlX3_55 : ax_MV RX3 55 iX3_put 3 1 := ⟨cbX3_put, ⟨TX3, 3, rfl, by decide⟩, ax_gd (tb4 (List.mem_of_getElem? (i := 136) rfl)) rfl, imX3_put, seX3_put⟩
theorem mlX3_58 : ax_MV RX3 58 iX8_pass 8 2 := ⟨cbX8_pass, ⟨TX8, 9, rfl, by decide⟩, ax_gd (tb4 (List.mem_of_getElem? (i := 148) rfl)) rfl, imX8_pass, seX8_pass⟩
theorem mlX3_62 : ax_MV RX3 62 iX8_isSign 8 1 := ⟨cbX8_isSign, ⟨TX8, 9, rfl, by decide⟩, ax_gd (tb4 (List.mem_of_getElem? (i := 140) rfl)) rfl, imX8_isSign, seX8_isSign⟩
theorem imX3_readProduct : Cond.instanceMethod yX3_readProduct ∈ ax_good := ax_gd (tb4 (List.mem_of_getElem? (i := 118) rfl)) rfl
theorem seX3_readProduct : Cond.selects RX3 yX3_readProduct yX3_readProduct ∈ ax_good := ax_gd (tbs (pv1 (List.mem_of_getElem? (i := 14) rfl))) rfl
theorem mlX3_65 : ax_MV RX3 65 iX3_readProduct 3 1 := ⟨cbX3_readProduct, ⟨TX3, 3, rfl, by decide⟩, ax_gd (tb4 (List.mem_of_getElem? (i := 116) rfl)) rfl, imX3_readProduct, seX3_readProduct⟩
theorem imX3_readUnit : Cond.instanceMethod yX3_readUnit ∈ ax_good := ax_gd (tb4 (List.mem_of_getElem? (i := 122) rfl)) rfl
theorem seX3_readUnit : Cond.selects RX3 yX3_readUnit yX3_readUnit ∈ ax_good := ax_gd (tbs (pv1 (List.mem_of_getElem? (i := 15) rfl))) rfl
theorem mlX3_68 : ax_MV RX3 68 iX3_readUnit 3 1 := ⟨cbX3_readUnit, ⟨TX3, 3, rfl, by decide⟩, ax_gd (tb4 (List.mem_of_getElem? (i := 120) rfl)) rfl, imX3_readUnit, seX3_readUnit⟩
theorem imX8_isNumber : Cond.instanceMethod yX8_isNumber ∈ ax_good := ax_gd (tb4 (List.mem_of_getElem? (i := 133) rfl)) rfl
theorem seX8_isNumber : Cond.selects RX8 yX8_isNumber yX8_isNumber ∈ ax_good := ax_gd (tb4 (List.mem_of_getElem? (i := 134) rfl)) rfl
theorem mlX3_71 : ax_MV RX3 71 iX8_isNumber 8 0 := ⟨cbX8_isNumber, ⟨TX8, 9, rfl, by decide⟩, ax_gd (tb4 (List.mem_of_getElem? (i := 132) rfl)) rfl, imX8_isNumber, seX8_isNumber⟩
theorem mlX3_74 : ax_MV RX3 74 iX8_value 8 0 := ⟨cbX8_value, ⟨TX8, 9, rfl, by decide⟩, ax_gd (tb4 (List.mem_of_getElem? (i := 124) rfl)) rfl, imX8_value, seX8_value⟩
theorem mlX3_78 : ax_MV RX3 78 iX8_isAsked 8 1 := ⟨cbX8_isAsked, ⟨TX8, 9, rfl, by decide⟩, ax_gd (tb4 (List.mem_of_getElem? (i := 128) rfl)) rfl, imX8_isAsked, seX8_isAsked⟩
theorem mlX4_3 : Cond.methodLink RX4 3 objectInit ∈ ax_good := ax_gd (tb1 (List.mem_of_getElem? (i := 144) rfl)) rfl
theorem nlX4_9 : ax_NL RX4 9 3 3 := ⟨RX3, TX3, rfl, by decide, ggX3, tyX3_ok, ax_gd (by decide +kernel) rfl, ax_gd (by decide +kernel) rfl, nI_X3, by decide +kernel⟩
theorem alX4_9 : Cond.classLink RX4 9 RX3 ∈ ax_good := ax_gd (by decide +kernel) rfl
theorem flX4_11 : ax_FL RX4 11 4 0 9 true := ⟨RX4, TX4, rfl, by decide, by decide, ggX4, tyX4_ok, nmX4, ax_gd (tb1 (List.mem_of_getElem? (i := 195) rfl)) rfl, rfl⟩
theorem nlX4_17 : ax_NL RX4 17 1 7 := ⟨RX1, TX1, rfl, by decide, ggX1, tyX1_ok, ax_gd (by decide +kernel) rfl, ax_gd (by decide +kernel) rfl, nI_X1, by decide +kernel⟩
theorem mlX4_19 : ax_MI RX4 19 iX1_init 0 ∨ ∃ host, ax_MIN RX4 19 iX1_init host 0 := Or.inr ⟨"RopeMind", cbX1_init, by decide +kernel, ax_gd (by decide +kernel) rfl, rfl, rfl⟩
theorem flX4_20 : ax_FL RX4 20 4 1 9 true := ⟨RX4, TX4, rfl, by decide, by decide, ggX4, tyX4_ok, nmX4, ax_gd (tb1 (List.mem_of_getElem? (i := 198) rfl)) rfl, rfl⟩
theorem flX4_24 : ax_FL RX4 24 4 2 9 true := ⟨RX4, TX4, rfl, by decide, by decide, ggX4, tyX4_ok, nmX4, ax_gd (tb1 (List.mem_of_getElem? (i := 200) rfl)) rfl, rfl⟩
theorem flX4_28 : ax_FL RX4 28 4 3 9 true := ⟨RX4, TX4, rfl, by decide, by decide, ggX4, tyX4_ok, nmX4, ax_gd (tb1 (List.mem_of_getElem? (i := 201) rfl)) rfl, rfl⟩
theorem flX4_31 : ax_FL RX4 31 4 4 9 true := ⟨RX4, TX4, rfl, by decide, by decide, ggX4, tyX4_ok, nmX4, ax_gd (tb1 (List.mem_of_getElem? (i := 203) rfl)) rfl, rfl⟩
theorem flX4_34 : ax_FL RX4 34 4 5 9 true := ⟨RX4, TX4, rfl, by decide, by decide, ggX4, tyX4_ok, nmX4, ax_gd (tb1 (List.mem_of_getElem? (i := 206) rfl)) rfl, rfl⟩
theorem flX4_37 : ax_FL RX4 37 4 7 9 true := ⟨RX4, TX4, rfl, by decide, by decide, ggX4, tyX4_ok, nmX4, ax_gd (tb1 (List.mem_of_getElem? (i := 212) rfl)) rfl, rfl⟩
theorem mlX4_40 : ax_MI RX4 40 iX3_init 0 ∨ ∃ host, ax_MIN RX4 40 iX3_init host 0 := Or.inr ⟨"RopeMind", cbX3_init, by decide +kernel, ax_gd (by decide +kernel) rfl, rfl, rfl⟩
theorem mlX4_41 : ax_MV RX4 41 iX3_copyFrom 3 1 := ⟨cbX3_copyFrom, ⟨TX3, 3, rfl, by decide⟩, ax_gd (tb5 (List.mem_of_getElem? (i := 183) rfl)) rfl, imX3_copyFrom, seX3_copyFrom⟩
theorem mlX4_45 : ax_MV RX4 45 iX1_copyFrom 1 1 := ⟨cbX1_copyFrom, ⟨TX1, 7, rfl, by decide⟩, ax_gd (tb5 (List.mem_of_getElem? (i := 184) rfl)) rfl, imX1_copyFrom, seX1_copyFrom⟩
theorem mlX4_48 : ax_CW RX4 48 := ⟨ax_gd (tb5 (List.mem_of_getElem? (i := 185) rfl)) rfl, ax_gd (tb3 (List.mem_of_getElem? (i := 7) rfl)) rfl, ax_gd (tb3 (List.mem_of_getElem? (i := 6) rfl)) rfl, ax_gd (tb1 (List.mem_of_getElem? (i := 15) rfl)) rfl⟩
theorem flX4_54 : ax_FL RX4 54 4 6 9 false := ⟨RX4, TX4, rfl, by decide, by decide, ggX4, tyX4_ok, nmX4, ax_gd (tb1 (List.mem_of_getElem? (i := 209) rfl)) rfl, rfl⟩
theorem flX4_58 : ax_FL RX4 58 4 8 9 false := ⟨RX4, TX4, rfl, by decide, by decide, ggX4, tyX4_ok, nmX4, ax_gd (tb1 (List.mem_of_getElem? (i := 216) rfl)) rfl, rfl⟩
theorem flX4_61 : ax_FL RX4 61 8 1 9 false := ⟨RX8, TX8, rfl, by decide, by decide, ggX8, tyX8_ok, nmX8, ax_gd (tb2 (List.mem_of_getElem? (i := 6) rfl)) rfl, rfl⟩
theorem flX4_66 : ax_FL RX4 66 8 0 9 true := ⟨RX8, TX8, rfl, by decide, by decide, ggX8, tyX8_ok, nmX8, ax_gd (tb2 (List.mem_of_getElem? (i := 4) rfl)) rfl, rfl⟩
theorem mlX4_69 : ax_MS RX4 69 iX8_isBlank 1 ∨ ∃ host, ax_MSN RX4 69 iX8_isBlank host 1 := Or.inl ⟨cbX8_isBlank, ax_gd (tb4 (List.mem_of_getElem? (i := 204) rfl)) rfl, ax_gd (tb4 (List.mem_of_getElem? (i := 30) rfl)) rfl⟩
theorem mlX4_73 : ax_MS RX4 73 iX4_letterFor 1 ∨ ∃ host, ax_MSN RX4 73 iX4_letterFor host 1 := Or.inl ⟨cbX4_letterFor, ax_gd (tb4 (List.mem_of_getElem? (i := 205) rfl)) rfl, ax_gd (tb4 (List.mem_of_getElem? (i := 206) rfl)) rfl⟩
theorem imX8_failAt : Cond.instanceMethod yX8_failAt ∈ ax_good := ax_gd (tb4 (List.mem_of_getElem? (i := 209) rfl)) rfl
theorem seX8_failAt : Cond.selects RX8 yX8_failAt yX8_failAt ∈ ax_good := ax_gd (tb4 (List.mem_of_getElem? (i := 210) rfl)) rfl
theorem mlX4_77 : ax_MV RX4 77 iX8_failAt 8 2 := ⟨cbX8_failAt, ⟨TX8, 9, rfl, by decide⟩, ax_gd (tb4 (List.mem_of_getElem? (i := 208) rfl)) rfl, imX8_failAt, seX8_failAt⟩
theorem imX4_countOf : Cond.instanceMethod yX4_countOf ∈ ax_good := ax_gd (tb5 (List.mem_of_getElem? (i := 107) rfl)) rfl
theorem seX4_countOf : Cond.selects RX4 yX4_countOf yX4_countOf ∈ ax_good := ax_gd (tbs (pv2 (List.mem_of_getElem? (i := 11) rfl))) rfl
theorem mlX4_81 : ax_MV RX4 81 iX4_countOf 4 2 := ⟨cbX4_countOf, ⟨TX4, 9, rfl, by decide⟩, ax_gd (tb5 (List.mem_of_getElem? (i := 105) rfl)) rfl, imX4_countOf, seX4_countOf⟩
theorem mlX4_85 : ax_MV RX4 85 iX4_balanceOf 4 1 := ⟨cbX4_balanceOf, ⟨TX4, 9, rfl, by decide⟩, ax_gd (tb5 (List.mem_of_getElem? (i := 101) rfl)) rfl, imX4_balanceOf, seX4_balanceOf⟩
theorem mlX4_88 : ax_MV RX4 88 iX4_twistsOf 4 1 := ⟨cbX4_twistsOf, ⟨TX4, 9, rfl, by decide⟩, ax_gd (tb5 (List.mem_of_getElem? (i := 109) rfl)) rfl, imX4_twistsOf, seX4_twistsOf⟩
theorem mlX4_91 : ax_MS RX4 91 iX5_behind 2 ∨ ∃ host, ax_MSN RX4 91 iX5_behind host 2 := Or.inl ⟨cbX5_behind, ax_gd (tb5 (List.mem_of_getElem? (i := 117) rfl)) rfl, ax_gd (tb5 (List.mem_of_getElem? (i := 118) rfl)) rfl⟩
theorem mlX5_3 : Cond.methodLink RX5 3 objectInit ∈ ax_good := ax_gd (tb2 (List.mem_of_getElem? (i := 130) rfl)) rfl
theorem flX5_11 : ax_FL RX5 11 5 0 5 true := ⟨RX5, TX5, rfl, by decide, by decide, ggX5, tyX5_ok, nmX5, ax_gd (tb2 (List.mem_of_getElem? (i := 131) rfl)) rfl, rfl⟩
theorem flX5_15 : ax_FL RX5 15 5 1 5 true := ⟨RX5, TX5, rfl, by decide, by decide, ggX5, tyX5_ok, nmX5, ax_gd (tb2 (List.mem_of_getElem? (i := 132) rfl)) rfl, rfl⟩
theorem flX5_18 : ax_FL RX5 18 5 2 5 true := ⟨RX5, TX5, rfl, by decide, by decide, ggX5, tyX5_ok, nmX5, ax_gd (tb2 (List.mem_of_getElem? (i := 133) rfl)) rfl, rfl⟩
theorem mlX5_21 : ax_MS RX5 21 iX11_isIn 2 ∨ ∃ host, ax_MSN RX5 21 iX11_isIn host 2 := Or.inr ⟨"RopeMind", cbX11_isIn, by decide +kernel, ax_gd (tb2 (List.mem_of_getElem? (i := 213) rfl)) rfl⟩
theorem mlX5_25 : ax_MS RX5 25 iJ7_fill_53178 2 ∨ ∃ host, ax_MSN RX5 25 iJ7_fill_53178 host 2 := Or.inl ⟨cbJ7_fill_53178, ax_gd (tb5 (List.mem_of_getElem? (i := 125) rfl)) rfl, ax_gd (tb1 (List.mem_of_getElem? (i := 39) rfl)) rfl⟩
theorem flX5_31 : ax_FL RX5 31 5 4 5 false := ⟨RX5, TX5, rfl, by decide, by decide, ggX5, tyX5_ok, nmX5, ax_gd (tb2 (List.mem_of_getElem? (i := 135) rfl)) rfl, rfl⟩
theorem imX5_spell : Cond.instanceMethod yX5_spell ∈ ax_good := ax_gd (tb5 (List.mem_of_getElem? (i := 128) rfl)) rfl
theorem seX5_spell : Cond.selects RX5 yX5_spell yX5_spell ∈ ax_good := ax_gd (tbs (pv2 (List.mem_of_getElem? (i := 12) rfl))) rfl
theorem mlX5_35 : ax_MV RX5 35 iX5_spell 5 1 := ⟨cbX5_spell, ⟨TX5, 5, rfl, by decide⟩, ax_gd (tb5 (List.mem_of_getElem? (i := 126) rfl)) rfl, imX5_spell, seX5_spell⟩
theorem imX5_reachAll : Cond.instanceMethod yX5_reachAll ∈ ax_good := ax_gd (tb5 (List.mem_of_getElem? (i := 132) rfl)) rfl
theorem seX5_reachAll : Cond.selects RX5 yX5_reachAll yX5_reachAll ∈ ax_good := ax_gd (tbs (pv2 (List.mem_of_getElem? (i := 13) rfl))) rfl
theorem mlX5_39 : ax_MV RX5 39 iX5_reachAll 5 1 := ⟨cbX5_reachAll, ⟨TX5, 5, rfl, by decide⟩, ax_gd (tb5 (List.mem_of_getElem? (i := 130) rfl)) rfl, imX5_reachAll, seX5_reachAll⟩
theorem flX5_42 : ax_FL RX5 42 5 3 5 false := ⟨RX5, TX5, rfl, by decide, by decide, ggX5, tyX5_ok, nmX5, ax_gd (tb2 (List.mem_of_getElem? (i := 134) rfl)) rfl, rfl⟩
theorem imX5_reach : Cond.instanceMethod yX5_reach ∈ ax_good := ax_gd (tb5 (List.mem_of_getElem? (i := 136) rfl)) rfl
theorem seX5_reach : Cond.selects RX5 yX5_reach yX5_reach ∈ ax_good := ax_gd (tbs (pv2 (List.mem_of_getElem? (i := 14) rfl))) rfl
theorem mlX5_45 : ax_MV RX5 45 iX5_reach 5 5 := ⟨cbX5_reach, ⟨TX5, 5, rfl, by decide⟩, ax_gd (tb5 (List.mem_of_getElem? (i := 134) rfl)) rfl, imX5_reach, seX5_reach⟩
theorem mlX5_49 : ax_MS RX5 49 iX5_behind 2 ∨ ∃ host, ax_MSN RX5 49 iX5_behind host 2 := Or.inl ⟨cbX5_behind, ax_gd (tb5 (List.mem_of_getElem? (i := 138) rfl)) rfl, ax_gd (tb5 (List.mem_of_getElem? (i := 118) rfl)) rfl⟩
theorem mlX6_3 : Cond.methodLink RX6 3 objectInit ∈ ax_good := ax_gd (tb2 (List.mem_of_getElem? (i := 76) rfl)) rfl
theorem flX6_9 : ax_FL RX6 9 6 1 5 true := ⟨RX6, TX6, rfl, by decide, by decide, ggX6, tyX6_ok, nmX6, ax_gd (tb2 (List.mem_of_getElem? (i := 78) rfl)) rfl, rfl⟩
theorem flX6_15 : ax_FL RX6 15 6 2 5 true := ⟨RX6, TX6, rfl, by decide, by decide, ggX6, tyX6_ok, nmX6, ax_gd (tb2 (List.mem_of_getElem? (i := 80) rfl)) rfl, rfl⟩
theorem flX6_18 : ax_FL RX6 18 6 0 5 true := ⟨RX6, TX6, rfl, by decide, by decide, ggX6, tyX6_ok, nmX6, ax_gd (tb2 (List.mem_of_getElem? (i := 77) rfl)) rfl, rfl⟩
theorem flX6_22 : ax_FL RX6 22 6 4 5 false := ⟨RX6, TX6, rfl, by decide, by decide, ggX6, tyX6_ok, nmX6, ax_gd (tb2 (List.mem_of_getElem? (i := 84) rfl)) rfl, rfl⟩
theorem flX6_26 : ax_FL RX6 26 7 1 8 false := ⟨RX7, TX7, rfl, by decide, by decide, ggX7, tyX7_ok, nmX7, ax_gd (tb1 (List.mem_of_getElem? (i := 50) rfl)) rfl, rfl⟩
theorem flX6_31 : ax_FL RX6 31 7 5 8 true := ⟨RX7, TX7, rfl, by decide, by decide, ggX7, tyX7_ok, nmX7, ax_gd (tb1 (List.mem_of_getElem? (i := 65) rfl)) rfl, rfl⟩
theorem mlX6_34 : ax_MV RX6 34 iX7_callAt 7 1 := ⟨cbX7_callAt, ⟨TX7, 8, rfl, by decide⟩, ax_gd (tb3 (List.mem_of_getElem? (i := 56) rfl)) rfl, imX7_callAt, seX7_callAt⟩
theorem flX6_38 : ax_FL RX6 38 7 7 8 true := ⟨RX7, TX7, rfl, by decide, by decide, ggX7, tyX7_ok, nmX7, ax_gd (tb1 (List.mem_of_getElem? (i := 72) rfl)) rfl, rfl⟩
theorem imX6_lineUp : Cond.instanceMethod yX6_lineUp ∈ ax_good := ax_gd (tb3 (List.mem_of_getElem? (i := 54) rfl)) rfl
theorem seX6_lineUp : Cond.selects RX6 yX6_lineUp yX6_lineUp ∈ ax_good := ax_gd (tbs (pv1 (List.mem_of_getElem? (i := 3) rfl))) rfl
theorem mlX6_41 : ax_MV RX6 41 iX6_lineUp 6 1 := ⟨cbX6_lineUp, ⟨TX6, 5, rfl, by decide⟩, ax_gd (tb3 (List.mem_of_getElem? (i := 52) rfl)) rfl, imX6_lineUp, seX6_lineUp⟩
theorem flX6_45 : ax_FL RX6 45 6 3 5 false := ⟨RX6, TX6, rfl, by decide, by decide, ggX6, tyX6_ok, nmX6, ax_gd (tb2 (List.mem_of_getElem? (i := 82) rfl)) rfl, rfl⟩
theorem mlX6_48 : ax_MV RX6 48 iX2_needOf 2 4 := ⟨cbX2_needOf, ⟨TX2, 7, rfl, by decide⟩, ax_gd (tb3 (List.mem_of_getElem? (i := 60) rfl)) rfl, imX2_needOf, seX2_needOf⟩
theorem flX6_54 : ax_FL RX6 54 9 0 7 false := ⟨RX9, TX9, rfl, by decide, by decide, ggX9, tyX9_ok, nmX9, ax_gd (tb1 (List.mem_of_getElem? (i := 97) rfl)) rfl, rfl⟩
theorem mlX6_59 : ax_MV RX6 59 iX7_tieKnot 7 4 := ⟨cbX7_tieKnot, ⟨TX7, 8, rfl, by decide⟩, ax_gd (tb3 (List.mem_of_getElem? (i := 84) rfl)) rfl, imX7_tieKnot, seX7_tieKnot⟩
theorem mlX7_3 : Cond.methodLink RX7 3 objectInit ∈ ax_good := ax_gd (tb1 (List.mem_of_getElem? (i := 45) rfl)) rfl
theorem flX7_9 : ax_FL RX7 9 7 5 8 true := ⟨RX7, TX7, rfl, by decide, by decide, ggX7, tyX7_ok, nmX7, ax_gd (tb1 (List.mem_of_getElem? (i := 64) rfl)) rfl, rfl⟩
theorem flX7_15 : ax_FL RX7 15 7 6 8 true := ⟨RX7, TX7, rfl, by decide, by decide, ggX7, tyX7_ok, nmX7, ax_gd (tb1 (List.mem_of_getElem? (i := 68) rfl)) rfl, rfl⟩
theorem flX7_18 : ax_FL RX7 18 7 7 8 true := ⟨RX7, TX7, rfl, by decide, by decide, ggX7, tyX7_ok, nmX7, ax_gd (tb1 (List.mem_of_getElem? (i := 71) rfl)) rfl, rfl⟩
theorem flX7_21 : ax_FL RX7 21 7 0 8 false := ⟨RX7, TX7, rfl, by decide, by decide, ggX7, tyX7_ok, nmX7, ax_gd (tb1 (List.mem_of_getElem? (i := 46) rfl)) rfl, rfl⟩
theorem flX7_25 : ax_FL RX7 25 7 1 8 false := ⟨RX7, TX7, rfl, by decide, by decide, ggX7, tyX7_ok, nmX7, ax_gd (tb1 (List.mem_of_getElem? (i := 51) rfl)) rfl, rfl⟩
theorem flX7_29 : ax_FL RX7 29 7 2 8 false := ⟨RX7, TX7, rfl, by decide, by decide, ggX7, tyX7_ok, nmX7, ax_gd (tb1 (List.mem_of_getElem? (i := 56) rfl)) rfl, rfl⟩
theorem flX7_32 : ax_FL RX7 32 7 3 8 false := ⟨RX7, TX7, rfl, by decide, by decide, ggX7, tyX7_ok, nmX7, ax_gd (tb1 (List.mem_of_getElem? (i := 58) rfl)) rfl, rfl⟩
theorem flX7_35 : ax_FL RX7 35 7 4 8 false := ⟨RX7, TX7, rfl, by decide, by decide, ggX7, tyX7_ok, nmX7, ax_gd (tb1 (List.mem_of_getElem? (i := 61) rfl)) rfl, rfl⟩
theorem mlX7_38 : ax_CW RX7 38 := ⟨ax_gd (tb3 (List.mem_of_getElem? (i := 12) rfl)) rfl, ax_gd (tb3 (List.mem_of_getElem? (i := 7) rfl)) rfl, ax_gd (tb3 (List.mem_of_getElem? (i := 6) rfl)) rfl, ax_gd (tb1 (List.mem_of_getElem? (i := 15) rfl)) rfl⟩
theorem mlX7_44 : ax_MS RX7 44 iJ7_fill_53178 2 ∨ ∃ host, ax_MSN RX7 44 iJ7_fill_53178 host 2 := Or.inl ⟨cbJ7_fill_53178, ax_gd (tb2 (List.mem_of_getElem? (i := 219) rfl)) rfl, ax_gd (tb1 (List.mem_of_getElem? (i := 39) rfl)) rfl⟩
theorem mlX7_50 : ax_MV RX7 50 iX7_isTied 7 1 := ⟨cbX7_isTied, ⟨TX7, 8, rfl, by decide⟩, ax_gd (tb3 (List.mem_of_getElem? (i := 72) rfl)) rfl, imX7_isTied, seX7_isTied⟩
theorem mlX7_54 : ax_MV RX7 54 iX7_habitsAt 7 1 := ⟨cbX7_habitsAt, ⟨TX7, 8, rfl, by decide⟩, ax_gd (tb4 (List.mem_of_getElem? (i := 238) rfl)) rfl, imX7_habitsAt, seX7_habitsAt⟩
theorem mlX7_58 : ax_MW RX7 58 Lib.Math.min.name Lib.Math.min.code := ⟨ax_gd (tb3 (List.mem_of_getElem? (i := 25) rfl)) rfl, ax_gd (tb3 (List.mem_of_getElem? (i := 26) rfl)) rfl, ax_gd (tb1 (List.mem_of_getElem? (i := 16) rfl)) rfl, ax_gd (by decide +kernel) rfl⟩
theorem mlX7_64 : ax_MV RX7 64 iX7_addHabit 7 4 := ⟨cbX7_addHabit, ⟨TX7, 8, rfl, by decide⟩, ax_gd (tb3 (List.mem_of_getElem? (i := 21) rfl)) rfl, imX7_addHabit, seX7_addHabit⟩
theorem mlX7_68 : ax_MV RX7 68 iX7_callAt 7 1 := ⟨cbX7_callAt, ⟨TX7, 8, rfl, by decide⟩, ax_gd (tb3 (List.mem_of_getElem? (i := 124) rfl)) rfl, imX7_callAt, seX7_callAt⟩
theorem mlX7_71 : ax_MV RX7 71 iX7_begin 7 3 := ⟨cbX7_begin, ⟨TX7, 8, rfl, by decide⟩, ax_gd (tb3 (List.mem_of_getElem? (i := 111) rfl)) rfl, imX7_begin, seX7_begin⟩
theorem imX7_copyPlaces : Cond.instanceMethod yX7_copyPlaces ∈ ax_good := ax_gd (tb3 (List.mem_of_getElem? (i := 114) rfl)) rfl
theorem seX7_copyPlaces : Cond.selects RX7 yX7_copyPlaces yX7_copyPlaces ∈ ax_good := ax_gd (tbs (pv1 (List.mem_of_getElem? (i := 5) rfl))) rfl
theorem mlX7_75 : ax_MV RX7 75 iX7_copyPlaces 7 4 := ⟨cbX7_copyPlaces, ⟨TX7, 8, rfl, by decide⟩, ax_gd (tb3 (List.mem_of_getElem? (i := 112) rfl)) rfl, imX7_copyPlaces, seX7_copyPlaces⟩
theorem mlX7_79 : ax_MW RX7 79 Lib.Math.max.name Lib.Math.max.code := ⟨ax_gd (tb3 (List.mem_of_getElem? (i := 137) rfl)) rfl, ax_gd (tb3 (List.mem_of_getElem? (i := 138) rfl)) rfl, ax_gd (tb1 (List.mem_of_getElem? (i := 16) rfl)) rfl, ax_gd (by decide +kernel) rfl⟩
theorem imX7_marry : Cond.instanceMethod yX7_marry ∈ ax_good := ax_gd (tb3 (List.mem_of_getElem? (i := 142) rfl)) rfl
theorem seX7_marry : Cond.selects RX7 yX7_marry yX7_marry ∈ ax_good := ax_gd (tbs (pv1 (List.mem_of_getElem? (i := 6) rfl))) rfl
theorem mlX7_82 : ax_MV RX7 82 iX7_marry 7 2 := ⟨cbX7_marry, ⟨TX7, 8, rfl, by decide⟩, ax_gd (tb3 (List.mem_of_getElem? (i := 140) rfl)) rfl, imX7_marry, seX7_marry⟩
theorem mlX8_3 : Cond.methodLink RX8 3 objectInit ∈ ax_good := ax_gd (tb2 (List.mem_of_getElem? (i := 2) rfl)) rfl
theorem flX8_9 : ax_FL RX8 9 8 0 9 true := ⟨RX8, TX8, rfl, by decide, by decide, ggX8, tyX8_ok, nmX8, ax_gd (tb2 (List.mem_of_getElem? (i := 3) rfl)) rfl, rfl⟩
theorem flX8_15 : ax_FL RX8 15 8 3 9 false := ⟨RX8, TX8, rfl, by decide, by decide, ggX8, tyX8_ok, nmX8, ax_gd (tb2 (List.mem_of_getElem? (i := 10) rfl)) rfl, rfl⟩
theorem flX8_19 : ax_FL RX8 19 8 4 9 true := ⟨RX8, TX8, rfl, by decide, by decide, ggX8, tyX8_ok, nmX8, ax_gd (tb2 (List.mem_of_getElem? (i := 12) rfl)) rfl, rfl⟩
theorem flX8_22 : ax_FL RX8 22 8 5 9 true := ⟨RX8, TX8, rfl, by decide, by decide, ggX8, tyX8_ok, nmX8, ax_gd (tb2 (List.mem_of_getElem? (i := 13) rfl)) rfl, rfl⟩
theorem flX8_25 : ax_FL RX8 25 8 6 9 true := ⟨RX8, TX8, rfl, by decide, by decide, ggX8, tyX8_ok, nmX8, ax_gd (tb2 (List.mem_of_getElem? (i := 14) rfl)) rfl, rfl⟩
theorem flX8_28 : ax_FL RX8 28 8 1 9 false := ⟨RX8, TX8, rfl, by decide, by decide, ggX8, tyX8_ok, nmX8, ax_gd (tb2 (List.mem_of_getElem? (i := 5) rfl)) rfl, rfl⟩
theorem flX8_31 : ax_FL RX8 31 8 7 9 false := ⟨RX8, TX8, rfl, by decide, by decide, ggX8, tyX8_ok, nmX8, ax_gd (tb2 (List.mem_of_getElem? (i := 15) rfl)) rfl, rfl⟩
theorem flX8_34 : ax_FL RX8 34 8 8 9 false := ⟨RX8, TX8, rfl, by decide, by decide, ggX8, tyX8_ok, nmX8, ax_gd (tb2 (List.mem_of_getElem? (i := 16) rfl)) rfl, rfl⟩
theorem mlX8_37 : ax_MS RX8 37 iX8_isLetter 1 ∨ ∃ host, ax_MSN RX8 37 iX8_isLetter host 1 := Or.inl ⟨cbX8_isLetter, ax_gd (tb3 (List.mem_of_getElem? (i := 198) rfl)) rfl, ax_gd (tb3 (List.mem_of_getElem? (i := 199) rfl)) rfl⟩
theorem imX8_wordFor : Cond.instanceMethod yX8_wordFor ∈ ax_good := ax_gd (tb3 (List.mem_of_getElem? (i := 203) rfl)) rfl
theorem seX8_wordFor : Cond.selects RX8 yX8_wordFor yX8_wordFor ∈ ax_good := ax_gd (tbs (pv1 (List.mem_of_getElem? (i := 8) rfl))) rfl
theorem mlX8_41 : ax_MV RX8 41 iX8_wordFor 8 3 := ⟨cbX8_wordFor, ⟨TX8, 9, rfl, by decide⟩, ax_gd (tb3 (List.mem_of_getElem? (i := 201) rfl)) rfl, imX8_wordFor, seX8_wordFor⟩
theorem imX8_add : Cond.instanceMethod yX8_add ∈ ax_good := ax_gd (tb4 (List.mem_of_getElem? (i := 19) rfl)) rfl
theorem seX8_add : Cond.selects RX8 yX8_add yX8_add ∈ ax_good := ax_gd (tbs (pv1 (List.mem_of_getElem? (i := 10) rfl))) rfl
theorem mlX8_45 : ax_MV RX8 45 iX8_add 8 3 := ⟨cbX8_add, ⟨TX8, 9, rfl, by decide⟩, ax_gd (tb4 (List.mem_of_getElem? (i := 17) rfl)) rfl, imX8_add, seX8_add⟩
theorem mlX8_49 : ax_MS RX8 49 iX8_isDigit 1 ∨ ∃ host, ax_MSN RX8 49 iX8_isDigit host 1 := Or.inl ⟨cbX8_isDigit, ax_gd (tb4 (List.mem_of_getElem? (i := 21) rfl)) rfl, ax_gd (tb4 (List.mem_of_getElem? (i := 22) rfl)) rfl⟩
theorem mlX8_52 : ax_MW RX8 52 Lib.Math.min.name Lib.Math.min.code := ⟨ax_gd (tb4 (List.mem_of_getElem? (i := 24) rfl)) rfl, ax_gd (tb3 (List.mem_of_getElem? (i := 26) rfl)) rfl, ax_gd (tb1 (List.mem_of_getElem? (i := 16) rfl)) rfl, ax_gd (by decide +kernel) rfl⟩
theorem imX8_numberFor : Cond.instanceMethod yX8_numberFor ∈ ax_good := ax_gd (tb4 (List.mem_of_getElem? (i := 27) rfl)) rfl
theorem seX8_numberFor : Cond.selects RX8 yX8_numberFor yX8_numberFor ∈ ax_good := ax_gd (tbs (pv1 (List.mem_of_getElem? (i := 11) rfl))) rfl
theorem mlX8_58 : ax_MV RX8 58 iX8_numberFor 8 2 := ⟨cbX8_numberFor, ⟨TX8, 9, rfl, by decide⟩, ax_gd (tb4 (List.mem_of_getElem? (i := 25) rfl)) rfl, imX8_numberFor, seX8_numberFor⟩
theorem mlX8_61 : ax_MS RX8 61 iX8_isBlank 1 ∨ ∃ host, ax_MSN RX8 61 iX8_isBlank host 1 := Or.inl ⟨cbX8_isBlank, ax_gd (tb4 (List.mem_of_getElem? (i := 29) rfl)) rfl, ax_gd (tb4 (List.mem_of_getElem? (i := 30) rfl)) rfl⟩
theorem imX8_standsAt : Cond.instanceMethod yX8_standsAt ∈ ax_good := ax_gd (tb4 (List.mem_of_getElem? (i := 15) rfl)) rfl
theorem seX8_standsAt : Cond.selects RX8 yX8_standsAt yX8_standsAt ∈ ax_good := ax_gd (tbs (pv1 (List.mem_of_getElem? (i := 9) rfl))) rfl
theorem mlX8_79 : ax_MV RX8 79 iX8_standsAt 8 4 := ⟨cbX8_standsAt, ⟨TX8, 9, rfl, by decide⟩, ax_gd (tb4 (List.mem_of_getElem? (i := 13) rfl)) rfl, imX8_standsAt, seX8_standsAt⟩
theorem mlX8_83 : ax_MV RX8 83 iX8_fail 8 1 := ⟨cbX8_fail, ⟨TX8, 9, rfl, by decide⟩, ax_gd (tb4 (List.mem_of_getElem? (i := 152) rfl)) rfl, imX8_fail, seX8_fail⟩
theorem mlX8_86 : ax_MV RX8 86 iX8_step 8 0 := ⟨cbX8_step, ⟨TX8, 9, rfl, by decide⟩, ax_gd (tb4 (List.mem_of_getElem? (i := 153) rfl)) rfl, imX8_step, seX8_step⟩
theorem flX8_89 : ax_FL RX8 89 8 2 9 false := ⟨RX8, TX8, rfl, by decide, by decide, ggX8, tyX8_ok, nmX8, ax_gd (tb2 (List.mem_of_getElem? (i := 9) rfl)) rfl, rfl⟩
theorem mlX9_3 : Cond.methodLink RX9 3 objectInit ∈ ax_good := ax_gd (tb1 (List.mem_of_getElem? (i := 35) rfl)) rfl
theorem flX9_9 : ax_FL RX9 9 9 4 7 true := ⟨RX9, TX9, rfl, by decide, by decide, ggX9, tyX9_ok, nmX9, ax_gd (tb1 (List.mem_of_getElem? (i := 105) rfl)) rfl, rfl⟩
theorem flX9_15 : ax_FL RX9 15 9 5 7 true := ⟨RX9, TX9, rfl, by decide, by decide, ggX9, tyX9_ok, nmX9, ax_gd (tb1 (List.mem_of_getElem? (i := 108) rfl)) rfl, rfl⟩
theorem nlX9_18 : ax_NL RX9 18 7 8 := ⟨RX7, TX7, rfl, by decide, ggX7, tyX7_ok, ax_gd (by decide +kernel) rfl, ax_gd (by decide +kernel) rfl, nI_X7, by decide +kernel⟩
theorem alX9_18 : Cond.classLink RX9 18 RX7 ∈ ax_good := ax_gd (by decide +kernel) rfl
theorem flX9_20 : ax_FL RX9 20 9 6 7 true := ⟨RX9, TX9, rfl, by decide, by decide, ggX9, tyX9_ok, nmX9, ax_gd (tb1 (List.mem_of_getElem? (i := 111) rfl)) rfl, rfl⟩
theorem mlX9_24 : ax_MS RX9 24 iJ7_fill_53178 2 ∨ ∃ host, ax_MSN RX9 24 iJ7_fill_53178 host 2 := Or.inl ⟨cbJ7_fill_53178, ax_gd (tb1 (List.mem_of_getElem? (i := 38) rfl)) rfl, ax_gd (tb1 (List.mem_of_getElem? (i := 39) rfl)) rfl⟩
theorem mlX9_30 : ax_MI RX9 30 iX7_init 0 ∨ ∃ host, ax_MIN RX9 30 iX7_init host 0 := Or.inr ⟨"RopeMind", cbX7_init, by decide +kernel, ax_gd (by decide +kernel) rfl, rfl, rfl⟩
theorem flX9_31 : ax_FL RX9 31 9 0 7 false := ⟨RX9, TX9, rfl, by decide, by decide, ggX9, tyX9_ok, nmX9, ax_gd (tb1 (List.mem_of_getElem? (i := 93) rfl)) rfl, rfl⟩
theorem flX9_35 : ax_FL RX9 35 9 1 7 false := ⟨RX9, TX9, rfl, by decide, by decide, ggX9, tyX9_ok, nmX9, ax_gd (tb1 (List.mem_of_getElem? (i := 98) rfl)) rfl, rfl⟩
theorem flX9_38 : ax_FL RX9 38 9 2 7 false := ⟨RX9, TX9, rfl, by decide, by decide, ggX9, tyX9_ok, nmX9, ax_gd (tb1 (List.mem_of_getElem? (i := 101) rfl)) rfl, rfl⟩
theorem flX9_41 : ax_FL RX9 41 9 3 7 false := ⟨RX9, TX9, rfl, by decide, by decide, ggX9, tyX9_ok, nmX9, ax_gd (tb1 (List.mem_of_getElem? (i := 102) rfl)) rfl, rfl⟩
theorem mlX9_44 : ax_CW RX9 44 := ⟨ax_gd (tb3 (List.mem_of_getElem? (i := 5) rfl)) rfl, ax_gd (tb3 (List.mem_of_getElem? (i := 7) rfl)) rfl, ax_gd (tb3 (List.mem_of_getElem? (i := 6) rfl)) rfl, ax_gd (tb1 (List.mem_of_getElem? (i := 15) rfl)) rfl⟩
theorem flX9_50 : ax_FL RX9 50 7 0 8 false := ⟨RX7, TX7, rfl, by decide, by decide, ggX7, tyX7_ok, nmX7, ax_gd (tb1 (List.mem_of_getElem? (i := 48) rfl)) rfl, rfl⟩
theorem mlX9_54 : ax_MV RX9 54 iX7_copyFrom 7 1 := ⟨cbX7_copyFrom, ⟨TX7, 8, rfl, by decide⟩, ax_gd (tb3 (List.mem_of_getElem? (i := 8) rfl)) rfl, imX7_copyFrom, seX7_copyFrom⟩
theorem mlX9_58 : ax_MS RX9 58 iX11_isIn 2 ∨ ∃ host, ax_MSN RX9 58 iX11_isIn host 2 := Or.inr ⟨"RopeMind", cbX11_isIn, by decide +kernel, ax_gd (tb2 (List.mem_of_getElem? (i := 213) rfl)) rfl⟩
theorem klX9_62 : Cond.constant RX9 62 1664525 ∈ ax_good := ax_gd (by decide +kernel) rfl
theorem klX9_63 : Cond.constant RX9 63 1013904223 ∈ ax_good := ax_gd (by decide +kernel) rfl
theorem flX9_64 : ax_FL RX9 64 7 1 8 false := ⟨RX7, TX7, rfl, by decide, by decide, ggX7, tyX7_ok, nmX7, ax_gd (tb1 (List.mem_of_getElem? (i := 54) rfl)) rfl, rfl⟩
theorem mlX9_67 : ax_MV RX9 67 iX9_freeNumber 9 0 := ⟨cbX9_freeNumber, ⟨TX9, 7, rfl, by decide⟩, ax_gd (tb3 (List.mem_of_getElem? (i := 102) rfl)) rfl, imX9_freeNumber, seX9_freeNumber⟩
theorem imX7_forgetBeside : Cond.instanceMethod yX7_forgetBeside ∈ ax_good := ax_gd (tb3 (List.mem_of_getElem? (i := 104) rfl)) rfl
theorem seX7_forgetBeside : Cond.selects RX7 yX7_forgetBeside yX7_forgetBeside ∈ ax_good := ax_gd (tb3 (List.mem_of_getElem? (i := 105) rfl)) rfl
theorem mlX9_71 : ax_MV RX9 71 iX7_forgetBeside 7 1 := ⟨cbX7_forgetBeside, ⟨TX7, 8, rfl, by decide⟩, ax_gd (tb3 (List.mem_of_getElem? (i := 103) rfl)) rfl, imX7_forgetBeside, seX7_forgetBeside⟩
theorem imX7_takeTail : Cond.instanceMethod yX7_takeTail ∈ ax_good := ax_gd (tb3 (List.mem_of_getElem? (i := 108) rfl)) rfl
theorem seX7_takeTail : Cond.selects RX7 yX7_takeTail yX7_takeTail ∈ ax_good := ax_gd (tb3 (List.mem_of_getElem? (i := 109) rfl)) rfl
theorem mlX9_75 : ax_MV RX9 75 iX7_takeTail 7 2 := ⟨cbX7_takeTail, ⟨TX7, 8, rfl, by decide⟩, ax_gd (tb3 (List.mem_of_getElem? (i := 107) rfl)) rfl, imX7_takeTail, seX7_takeTail⟩
abbrev iJ0_length_8abf5 : ax_I := (yJ0_length_8abf5, cJ0_length_8abf5, 1, (some .int))
abbrev iJ0_charAt_5068e : ax_I := (yJ0_charAt_5068e, cJ0_charAt_5068e, 2, (some .char))
abbrev iJ0_indexOf_0f7a4 : ax_I := (yJ0_indexOf_0f7a4, cJ0_indexOf_0f7a4, 2, (some .int))
abbrev iJ0_indexOf_7cf53 : ax_I := (yJ0_indexOf_7cf53, cJ0_indexOf_7cf53, 3, (some .int))
abbrev iJ0_coder_7d493 : ax_I := (yJ0_coder_7d493, cJ0_coder_7d493, 1, (some .byte))
abbrev iJ0_isLatin1_aae02 : ax_I := (yJ0_isLatin1_aae02, cJ0_isLatin1_aae02, 1, (some .boolean))
abbrev iJ0_checkIndex_df160 : ax_I := (yJ0_checkIndex_df160, cJ0_checkIndex_df160, 2, none)
abbrev iJ0_checkBoundsBeginEnd_23922 : ax_I := (yJ0_checkBoundsBeginEnd_23922, cJ0_checkBoundsBeginEnd_23922, 3, none)
abbrev iJ1_charAt_3b067 : ax_I := (yJ1_charAt_3b067, cJ1_charAt_3b067, 2, (some .char))
abbrev iJ1_canEncode_9a6ad : ax_I := (yJ1_canEncode_9a6ad, cJ1_canEncode_9a6ad, 1, (some .boolean))
abbrev iJ1_indexOf_4cfef : ax_I := (yJ1_indexOf_4cfef, cJ1_indexOf_4cfef, 4, (some .int))
abbrev iJ1_indexOfChar_4cfef : ax_I := (yJ1_indexOfChar_4cfef, cJ1_indexOfChar_4cfef, 6, (some .int))
abbrev iJ3_checkIndex_8e157 : ax_I := (yJ3_checkIndex_8e157, cJ3_checkIndex_8e157, 3, (some .int))
abbrev iJ3_checkFromToIndex_8c36e : ax_I := (yJ3_checkFromToIndex_8c36e, cJ3_checkFromToIndex_8c36e, 4, (some .int))
theorem nI_J0 : Cond.initialized RJ0 ∈ ax_good := ax_gd (tb1 (List.mem_of_getElem? (i := 17) rfl)) rfl
theorem nI_J1 : Cond.initialized RJ1 ∈ ax_good := ax_gd (tb1 (List.mem_of_getElem? (i := 18) rfl)) rfl
theorem nI_J3 : Cond.initialized RJ3 ∈ ax_good := ax_gd (tb1 (List.mem_of_getElem? (i := 19) rfl)) rfl
theorem cbJ0_length_8abf5 : ax_CB iJ0_length_8abf5 0 := ⟨nI_J0, ax_gd (tb3 (List.mem_of_getElem? (i := 208) rfl)) rfl, ⟨by decide +kernel, by decide +kernel, by decide +kernel⟩, by decide⟩
theorem cbJ0_charAt_5068e : ax_CB iJ0_charAt_5068e 1 := ⟨nI_J0, ax_gd (tb3 (List.mem_of_getElem? (i := 218) rfl)) rfl, ⟨by decide +kernel, by decide +kernel, by decide +kernel⟩, by decide⟩
theorem cbJ0_indexOf_0f7a4 : ax_CB iJ0_indexOf_0f7a4 1 := ⟨nI_J0, ax_gd (tb4 (List.mem_of_getElem? (i := 36) rfl)) rfl, ⟨by decide +kernel, by decide +kernel, by decide +kernel⟩, by decide⟩
theorem cbJ0_indexOf_7cf53 : ax_CB iJ0_indexOf_7cf53 2 := ⟨nI_J0, ax_gd (tb4 (List.mem_of_getElem? (i := 40) rfl)) rfl, ⟨by decide +kernel, by decide +kernel, by decide +kernel⟩, by decide⟩
theorem cbJ0_coder_7d493 : ax_CB iJ0_coder_7d493 0 := ⟨nI_J0, ax_gd (tb3 (List.mem_of_getElem? (i := 212) rfl)) rfl, ⟨by decide +kernel, by decide +kernel, by decide +kernel⟩, by decide⟩
theorem cbJ0_isLatin1_aae02 : ax_CB iJ0_isLatin1_aae02 0 := ⟨nI_J0, ax_gd (tb3 (List.mem_of_getElem? (i := 222) rfl)) rfl, ⟨by decide +kernel, by decide +kernel, by decide +kernel⟩, by decide⟩
theorem cbJ0_checkIndex_df160 : ax_CB iJ0_checkIndex_df160 2 := ⟨nI_J0, ax_gd (tb3 (List.mem_of_getElem? (i := 228) rfl)) rfl, ⟨by decide +kernel, by decide +kernel, by decide +kernel⟩, by decide⟩
theorem cbJ0_checkBoundsBeginEnd_23922 : ax_CB iJ0_checkBoundsBeginEnd_23922 3 := ⟨nI_J0, ax_gd (tb4 (List.mem_of_getElem? (i := 67) rfl)) rfl, ⟨by decide +kernel, by decide +kernel, by decide +kernel⟩, by decide⟩
theorem cbJ1_charAt_3b067 : ax_CB iJ1_charAt_3b067 2 := ⟨nI_J1, ax_gd (tb3 (List.mem_of_getElem? (i := 225) rfl)) rfl, ⟨by decide +kernel, by decide +kernel, by decide +kernel⟩, by decide⟩
theorem cbJ1_canEncode_9a6ad : ax_CB iJ1_canEncode_9a6ad 1 := ⟨nI_J1, ax_gd (tb4 (List.mem_of_getElem? (i := 47) rfl)) rfl, ⟨by decide +kernel, by decide +kernel, by decide +kernel⟩, by decide⟩
theorem cbJ1_indexOf_4cfef : ax_CB iJ1_indexOf_4cfef 4 := ⟨nI_J1, ax_gd (tb4 (List.mem_of_getElem? (i := 44) rfl)) rfl, ⟨by decide +kernel, by decide +kernel, by decide +kernel⟩, by decide⟩
theorem cbJ1_indexOfChar_4cfef : ax_CB iJ1_indexOfChar_4cfef 4 := ⟨nI_J1, ax_gd (tb4 (List.mem_of_getElem? (i := 52) rfl)) rfl, ⟨by decide +kernel, by decide +kernel, by decide +kernel⟩, by decide⟩
theorem cbJ3_checkIndex_8e157 : ax_CB iJ3_checkIndex_8e157 3 := ⟨nI_J3, ax_gd (tb3 (List.mem_of_getElem? (i := 233) rfl)) rfl, ⟨by decide +kernel, by decide +kernel, by decide +kernel⟩, by decide⟩
theorem cbJ3_checkFromToIndex_8c36e : ax_CB iJ3_checkFromToIndex_8c36e 4 := ⟨nI_J3, ax_gd (tb4 (List.mem_of_getElem? (i := 70) rfl)) rfl, ⟨by decide +kernel, by decide +kernel, by decide +kernel⟩, by decide⟩
theorem mlX8_72 : ax_MVS RX8 72 iJ0_length_8abf5 0 := ⟨cbJ0_length_8abf5, rfl, ax_gd (tb3 (List.mem_of_getElem? (i := 205) rfl)) rfl, ax_gd (tb3 (List.mem_of_getElem? (i := 206) rfl)) rfl, ax_gd (tb3 (List.mem_of_getElem? (i := 207) rfl)) rfl⟩
theorem mlJ0_335 : ax_MVS RJ0 335 iJ0_coder_7d493 0 := ⟨cbJ0_coder_7d493, rfl, ax_gd (tb3 (List.mem_of_getElem? (i := 209) rfl)) rfl, ax_gd (tb3 (List.mem_of_getElem? (i := 210) rfl)) rfl, ax_gd (tb3 (List.mem_of_getElem? (i := 211) rfl)) rfl⟩
theorem mlX8_75 : ax_MVS RX8 75 iJ0_charAt_5068e 1 := ⟨cbJ0_charAt_5068e, rfl, ax_gd (tb3 (List.mem_of_getElem? (i := 215) rfl)) rfl, ax_gd (tb3 (List.mem_of_getElem? (i := 216) rfl)) rfl, ax_gd (tb3 (List.mem_of_getElem? (i := 217) rfl)) rfl⟩
theorem mlJ0_492 : ax_MVS RJ0 492 iJ0_isLatin1_aae02 0 := ⟨cbJ0_isLatin1_aae02, rfl, ax_gd (tb3 (List.mem_of_getElem? (i := 219) rfl)) rfl, ax_gd (tb3 (List.mem_of_getElem? (i := 220) rfl)) rfl, ax_gd (tb3 (List.mem_of_getElem? (i := 221) rfl)) rfl⟩
theorem mlJ0_495 : ax_MS RJ0 495 iJ1_charAt_3b067 2 ∨ ∃ host, ax_MSN RJ0 495 iJ1_charAt_3b067 host 2 := Or.inl ⟨cbJ1_charAt_3b067, ax_gd (tb3 (List.mem_of_getElem? (i := 223) rfl)) rfl, ax_gd (tb3 (List.mem_of_getElem? (i := 224) rfl)) rfl⟩
theorem mlJ1_9 : ax_MS RJ1 9 iJ0_checkIndex_df160 2 ∨ ∃ host, ax_MSN RJ1 9 iJ0_checkIndex_df160 host 2 := Or.inl ⟨cbJ0_checkIndex_df160, ax_gd (tb3 (List.mem_of_getElem? (i := 226) rfl)) rfl, ax_gd (tb3 (List.mem_of_getElem? (i := 227) rfl)) rfl⟩
theorem mlJ0_1059 : ax_MS RJ0 1059 iJ3_checkIndex_8e157 3 ∨ ∃ host, ax_MSN RJ0 1059 iJ3_checkIndex_8e157 host 3 := Or.inl ⟨cbJ3_checkIndex_8e157, ax_gd (tb3 (List.mem_of_getElem? (i := 231) rfl)) rfl, ax_gd (tb3 (List.mem_of_getElem? (i := 232) rfl)) rfl⟩
theorem mlX8_66 : ax_MVS RX8 66 iJ0_indexOf_0f7a4 1 := ⟨cbJ0_indexOf_0f7a4, rfl, ax_gd (tb4 (List.mem_of_getElem? (i := 33) rfl)) rfl, ax_gd (tb4 (List.mem_of_getElem? (i := 34) rfl)) rfl, ax_gd (tb4 (List.mem_of_getElem? (i := 35) rfl)) rfl⟩
theorem mlJ0_633 : ax_MVS RJ0 633 iJ0_indexOf_7cf53 2 := ⟨cbJ0_indexOf_7cf53, rfl, ax_gd (tb4 (List.mem_of_getElem? (i := 37) rfl)) rfl, ax_gd (tb4 (List.mem_of_getElem? (i := 38) rfl)) rfl, ax_gd (tb4 (List.mem_of_getElem? (i := 39) rfl)) rfl⟩
theorem mlJ0_505 : ax_MVS RJ0 505 iJ0_length_8abf5 0 := ⟨cbJ0_length_8abf5, rfl, ax_gd (tb4 (List.mem_of_getElem? (i := 41) rfl)) rfl, ax_gd (tb3 (List.mem_of_getElem? (i := 206) rfl)) rfl, ax_gd (tb3 (List.mem_of_getElem? (i := 207) rfl)) rfl⟩
theorem mlJ0_637 : ax_MS RJ0 637 iJ1_indexOf_4cfef 4 ∨ ∃ host, ax_MSN RJ0 637 iJ1_indexOf_4cfef host 4 := Or.inl ⟨cbJ1_indexOf_4cfef, ax_gd (tb4 (List.mem_of_getElem? (i := 42) rfl)) rfl, ax_gd (tb4 (List.mem_of_getElem? (i := 43) rfl)) rfl⟩
theorem mlJ1_88 : ax_MS RJ1 88 iJ1_canEncode_9a6ad 1 ∨ ∃ host, ax_MSN RJ1 88 iJ1_canEncode_9a6ad host 1 := Or.inl ⟨cbJ1_canEncode_9a6ad, ax_gd (tb4 (List.mem_of_getElem? (i := 45) rfl)) rfl, ax_gd (tb4 (List.mem_of_getElem? (i := 46) rfl)) rfl⟩
theorem mlJ1_92 : ax_MW RJ1 92 Lib.Math.max.name Lib.Math.max.code := ⟨ax_gd (tb4 (List.mem_of_getElem? (i := 48) rfl)) rfl, ax_gd (tb3 (List.mem_of_getElem? (i := 138) rfl)) rfl, ax_gd (tb1 (List.mem_of_getElem? (i := 16) rfl)) rfl, ax_gd (by decide +kernel) rfl⟩
theorem mlJ1_38 : ax_MW RJ1 38 Lib.Math.min.name Lib.Math.min.code := ⟨ax_gd (tb4 (List.mem_of_getElem? (i := 49) rfl)) rfl, ax_gd (tb3 (List.mem_of_getElem? (i := 26) rfl)) rfl, ax_gd (tb1 (List.mem_of_getElem? (i := 16) rfl)) rfl, ax_gd (by decide +kernel) rfl⟩
theorem mlJ1_95 : ax_MS RJ1 95 iJ1_indexOfChar_4cfef 4 ∨ ∃ host, ax_MSN RJ1 95 iJ1_indexOfChar_4cfef host 4 := Or.inl ⟨cbJ1_indexOfChar_4cfef, ax_gd (tb4 (List.mem_of_getElem? (i := 50) rfl)) rfl, ax_gd (tb4 (List.mem_of_getElem? (i := 51) rfl)) rfl⟩
theorem mlJ0_1062 : ax_MS RJ0 1062 iJ3_checkFromToIndex_8c36e 4 ∨ ∃ host, ax_MSN RJ0 1062 iJ3_checkFromToIndex_8c36e host 4 := Or.inl ⟨cbJ3_checkFromToIndex_8c36e, ax_gd (tb4 (List.mem_of_getElem? (i := 68) rfl)) rfl, ax_gd (tb4 (List.mem_of_getElem? (i := 69) rfl)) rfl⟩
theorem mlX12_129 : ax_MVS RX12 129 iJ0_length_8abf5 0 := ⟨cbJ0_length_8abf5, rfl, ax_gd (tb6 (List.mem_of_getElem? (i := 186) rfl)) rfl, ax_gd (tb3 (List.mem_of_getElem? (i := 206) rfl)) rfl, ax_gd (tb3 (List.mem_of_getElem? (i := 207) rfl)) rfl⟩
theorem mlX12_134 : ax_MVS RX12 134 iJ0_charAt_5068e 1 := ⟨cbJ0_charAt_5068e, rfl, ax_gd (tb6 (List.mem_of_getElem? (i := 187) rfl)) rfl, ax_gd (tb3 (List.mem_of_getElem? (i := 216) rfl)) rfl, ax_gd (tb3 (List.mem_of_getElem? (i := 217) rfl)) rfl⟩
theorem flJ0_9 : Cond.fieldLink RJ0 9 "java/lang/String" "value" "[B" ∈ ax_good := ax_gd (tb8 (List.mem_of_getElem? (i := 187) rfl)) rfl
theorem flJ0_15 : Cond.fieldLink RJ0 15 "java/lang/String" "coder" "B" ∈ ax_good := ax_gd (tb8 (List.mem_of_getElem? (i := 188) rfl)) rfl
theorem flJ0_38 : Cond.fieldLink RJ0 38 "java/lang/String" "COMPACT_STRINGS" "Z" ∈ ax_good := ax_gd (tb3 (List.mem_of_getElem? (i := 213) rfl)) rfl
theorem flJ0_1053 : Cond.fieldLink RJ0 1053 "jdk/internal/util/Preconditions" "SIOOBE_FORMATTER" "Ljava/util/function/BiFunction;" ∈ ax_good := ax_gd (tb3 (List.mem_of_getElem? (i := 229) rfl)) rfl
