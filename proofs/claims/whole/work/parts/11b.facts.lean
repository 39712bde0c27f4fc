theorem bb_X0_open : m_X0_open.2.2.1 = cX0_open := rfl
theorem bb_X0_press : m_X0_press.2.2.1 = cX0_press := rfl
theorem bb_X0_costBy : m_X0_costBy.2.2.1 = cX0_costBy := rfl
theorem bb_X0_timeOfLast : m_X0_timeOfLast.2.2.1 = cX0_timeOfLast := rfl
theorem bb_X0_goOnFrom : m_X0_goOnFrom.2.2.1 = cX0_goOnFrom := rfl
theorem bb_X1_add : m_X1_add.2.2.1 = cX1_add := rfl
theorem bb_X1_copyFrom : m_X1_copyFrom.2.2.1 = cX1_copyFrom := rfl
theorem bb_X2_find : m_X2_find.2.2.1 = cX2_find := rfl
theorem bb_X2_extend : m_X2_extend.2.2.1 = cX2_extend := rfl
theorem bb_X3_copyFrom : m_X3_copyFrom.2.2.1 = cX3_copyFrom := rfl
theorem bb_X3_hasJob : m_X3_hasJob.2.2.1 = cX3_hasJob := rfl
theorem bb_X3_addJob : m_X3_addJob.2.2.1 = cX3_addJob := rfl
theorem bb_X3_placeOf : m_X3_placeOf.2.2.1 = cX3_placeOf := rfl
theorem bb_X3_shiftJob : m_X3_shiftJob.2.2.1 = cX3_shiftJob := rfl
theorem bb_X3_orderBy : m_X3_orderBy.2.2.1 = cX3_orderBy := rfl
theorem bb_X3_placeBy : m_X3_placeBy.2.2.1 = cX3_placeBy := rfl
theorem bb_X3_keyOf : m_X3_keyOf.2.2.1 = cX3_keyOf := rfl
theorem bb_X3_bound : m_X3_bound.2.2.1 = cX3_bound := rfl
theorem bb_X3_isEasy : m_X3_isEasy.2.2.1 = cX3_isEasy := rfl
theorem bb_X3_firstListSize : m_X3_firstListSize.2.2.1 = cX3_firstListSize := rfl
theorem bb_X4_become : m_X4_become.2.2.1 = cX4_become := rfl
theorem bb_X4_hasItem : m_X4_hasItem.2.2.1 = cX4_hasItem := rfl
theorem bb_X4_hasRun : m_X4_hasRun.2.2.1 = cX4_hasRun := rfl
theorem bb_X4_fitted : m_X4_fitted.2.2.1 = cX4_fitted := rfl
theorem bb_X5_append : m_X5_append.2.2.1 = cX5_append := rfl
theorem bb_X5_parse : m_X5_parse.2.2.1 = cX5_parse := rfl
theorem bb_X5_takeClause : m_X5_takeClause.2.2.1 = cX5_takeClause := rfl
theorem bb_X5_takeSign : m_X5_takeSign.2.2.1 = cX5_takeSign := rfl
theorem bb_X5_takeNumber : m_X5_takeNumber.2.2.1 = cX5_takeNumber := rfl
theorem bb_X6_job : m_X6_job.2.2.1 = cX6_job := rfl
theorem bb_X6_renew : m_X6_renew.2.2.1 = cX6_renew := rfl
theorem bb_X6_of : m_X6_of.2.2.1 = cX6_of := rfl
theorem bb_X6_set : m_X6_set.2.2.1 = cX6_set := rfl
theorem bb_X6_feed : m_X6_feed.2.2.1 = cX6_feed := rfl
theorem bb_X6_read : m_X6_read.2.2.1 = cX6_read := rfl
theorem bb_X6_carryOut : m_X6_carryOut.2.2.1 = cX6_carryOut := rfl
theorem bb_X6_plan : m_X6_plan.2.2.1 = cX6_plan := rfl
theorem bb_X6_move : m_X6_move.2.2.1 = cX6_move := rfl
theorem bb_X6_swap : m_X6_swap.2.2.1 = cX6_swap := rfl
theorem bb_X6_step : m_X6_step.2.2.1 = cX6_step := rfl
theorem bb_X6_takeStep : m_X6_takeStep.2.2.1 = cX6_takeStep := rfl
theorem bb_X6_at : m_X6_at.2.2.1 = cX6_at := rfl
theorem bb_X6_time : m_X6_time.2.2.1 = cX6_time := rfl
theorem bb_X6_told : m_X6_told.2.2.1 = cX6_told := rfl
theorem bb_X6_toldOfJobs : m_X6_toldOfJobs.2.2.1 = cX6_toldOfJobs := rfl
theorem bb_X6_waited : m_X6_waited.2.2.1 = cX6_waited := rfl
theorem bb_X6_turn : m_X6_turn.2.2.1 = cX6_turn := rfl
theorem bb_X6_exchanges : m_X6_exchanges.2.2.1 = cX6_exchanges := rfl
theorem bb_X6_would : m_X6_would.2.2.1 = cX6_would := rfl
theorem bb_X6_ruled : m_X6_ruled.2.2.1 = cX6_ruled := rfl
theorem bb_X6_cost : m_X6_cost.2.2.1 = cX6_cost := rfl
theorem bb_X6_least : m_X6_least.2.2.1 = cX6_least := rfl
theorem bb_X6_best : m_X6_best.2.2.1 = cX6_best := rfl
theorem bb_X6_slack : m_X6_slack.2.2.1 = cX6_slack := rfl
theorem bb_X6_isListedAlike : m_X6_isListedAlike.2.2.1 = cX6_isListedAlike := rfl
theorem bb_X6_see : m_X6_see.2.2.1 = cX6_see := rfl
theorem bb_X6_noteIn : m_X6_noteIn.2.2.1 = cX6_noteIn := rfl
theorem bb_X6_fits : m_X6_fits.2.2.1 = cX6_fits := rfl
theorem bb_X6_isAsSeen : m_X6_isAsSeen.2.2.1 = cX6_isAsSeen := rfl
theorem bb_X6_odds : m_X6_odds.2.2.1 = cX6_odds := rfl
theorem bb_X6_mean : m_X6_mean.2.2.1 = cX6_mean := rfl
theorem bb_X6_partOfFraction : m_X6_partOfFraction.2.2.1 = cX6_partOfFraction := rfl
theorem bb_X6_event : m_X6_event.2.2.1 = cX6_event := rfl
theorem bb_X6_after : m_X6_after.2.2.1 = cX6_after := rfl
theorem bb_X6_happen : m_X6_happen.2.2.1 = cX6_happen := rfl
theorem bb_X6_book : m_X6_book.2.2.1 = cX6_book := rfl
theorem bb_X6_looked : m_X6_looked.2.2.1 = cX6_looked := rfl
theorem bb_X6_judge : m_X6_judge.2.2.1 = cX6_judge := rfl
theorem bb_X6_firstOtherEnd : m_X6_firstOtherEnd.2.2.1 = cX6_firstOtherEnd := rfl
theorem bb_X6_image : m_X6_image.2.2.1 = cX6_image := rfl
theorem bb_X6_undo : m_X6_undo.2.2.1 = cX6_undo := rfl
theorem bb_X6_count : m_X6_count.2.2.1 = cX6_count := rfl
theorem bb_X6_tape : m_X6_tape.2.2.1 = cX6_tape := rfl
theorem bb_X6_item : m_X6_item.2.2.1 = cX6_item := rfl
theorem bb_X6_peek : m_X6_peek.2.2.1 = cX6_peek := rfl
theorem bb_X6_shift : m_X6_shift.2.2.1 = cX6_shift := rfl
theorem bb_X6_isBelow : m_X6_isBelow.2.2.1 = cX6_isBelow := rfl
theorem bb_X6_isWithin : m_X6_isWithin.2.2.1 = cX6_isWithin := rfl
theorem bb_X6_isGoal : m_X6_isGoal.2.2.1 = cX6_isGoal := rfl
theorem bb_X6_isPair : m_X6_isPair.2.2.1 = cX6_isPair := rfl
theorem bb_X6_pressPlanUpTo : m_X6_pressPlanUpTo.2.2.1 = cX6_pressPlanUpTo := rfl
theorem bb_X6_costOf : m_X6_costOf.2.2.1 = cX6_costOf := rfl
theorem bb_X6_planCost : m_X6_planCost.2.2.1 = cX6_planCost := rfl
theorem bb_X6_movedCost : m_X6_movedCost.2.2.1 = cX6_movedCost := rfl
theorem bb_X7_in : m_X7_in.2.2.1 = cX7_in := rfl
theorem bb_X7_isJob : m_X7_isJob.2.2.1 = cX7_isJob := rfl
theorem bb_X7_get : m_X7_get.2.2.1 = cX7_get := rfl
theorem bb_X7_passes : m_X7_passes.2.2.1 = cX7_passes := rfl
theorem bb_X7_passesRow : m_X7_passesRow.2.2.1 = cX7_passesRow := rfl
theorem bb_X7_passesAll : m_X7_passesAll.2.2.1 = cX7_passesAll := rfl
theorem bb_X7_image : m_X7_image.2.2.1 = cX7_image := rfl
theorem bb_X7_undo : m_X7_undo.2.2.1 = cX7_undo := rfl
theorem bb_X7_most : m_X7_most.2.2.1 = cX7_most := rfl
theorem bb_X7_job : m_X7_job.2.2.1 = cX7_job := rfl
theorem bb_X7_renew : m_X7_renew.2.2.1 = cX7_renew := rfl
theorem bb_X7_placeOf : m_X7_placeOf.2.2.1 = cX7_placeOf := rfl
theorem bb_X7_of : m_X7_of.2.2.1 = cX7_of := rfl
theorem bb_X7_set : m_X7_set.2.2.1 = cX7_set := rfl
theorem bb_X7_here : m_X7_here.2.2.1 = cX7_here := rfl
theorem bb_X7_takes : m_X7_takes.2.2.1 = cX7_takes := rfl
theorem bb_X7_takesDigit : m_X7_takesDigit.2.2.1 = cX7_takesDigit := rfl
theorem bb_X7_takesNumber : m_X7_takesNumber.2.2.1 = cX7_takesNumber := rfl
theorem bb_X7_rest : m_X7_rest.2.2.1 = cX7_rest := rfl
theorem bb_X7_clause : m_X7_clause.2.2.1 = cX7_clause := rfl
theorem bb_X7_goesThrough : m_X7_goesThrough.2.2.1 = cX7_goesThrough := rfl
theorem bb_X7_feed : m_X7_feed.2.2.1 = cX7_feed := rfl
theorem bb_X7_read : m_X7_read.2.2.1 = cX7_read := rfl
theorem bb_X7_goes : m_X7_goes.2.2.1 = cX7_goes := rfl
theorem bb_X7_ends : m_X7_ends.2.2.1 = cX7_ends := rfl
theorem bb_X7_costOf : m_X7_costOf.2.2.1 = cX7_costOf := rfl
theorem bb_X7_isFirst : m_X7_isFirst.2.2.1 = cX7_isFirst := rfl
theorem bb_X7_weight : m_X7_weight.2.2.1 = cX7_weight := rfl
theorem bb_X7_orders : m_X7_orders.2.2.1 = cX7_orders := rfl
theorem bb_X7_copies : m_X7_copies.2.2.1 = cX7_copies := rfl
theorem bb_X7_plan : m_X7_plan.2.2.1 = cX7_plan := rfl
theorem bb_X7_shifts : m_X7_shifts.2.2.1 = cX7_shifts := rfl
theorem bb_X7_move : m_X7_move.2.2.1 = cX7_move := rfl
theorem bb_X7_isPair : m_X7_isPair.2.2.1 = cX7_isPair := rfl
theorem bb_X7_swap : m_X7_swap.2.2.1 = cX7_swap := rfl
theorem bb_X7_wouldCost : m_X7_wouldCost.2.2.1 = cX7_wouldCost := rfl
theorem bb_X7_now : m_X7_now.2.2.1 = cX7_now := rfl
theorem bb_X7_betters : m_X7_betters.2.2.1 = cX7_betters := rfl
theorem bb_X7_step : m_X7_step.2.2.1 = cX7_step := rfl
theorem bb_X7_at : m_X7_at.2.2.1 = cX7_at := rfl
theorem bb_X7_time : m_X7_time.2.2.1 = cX7_time := rfl
theorem bb_X7_lowestOf : m_X7_lowestOf.2.2.1 = cX7_lowestOf := rfl
theorem bb_X7_together : m_X7_together.2.2.1 = cX7_together := rfl
theorem bb_X7_waited : m_X7_waited.2.2.1 = cX7_waited := rfl
theorem bb_X7_turn : m_X7_turn.2.2.1 = cX7_turn := rfl
theorem bb_X7_exchanges : m_X7_exchanges.2.2.1 = cX7_exchanges := rfl
theorem bb_X7_easy : m_X7_easy.2.2.1 = cX7_easy := rfl
theorem bb_X7_firsts : m_X7_firsts.2.2.1 = cX7_firsts := rfl
theorem bb_X7_told : m_X7_told.2.2.1 = cX7_told := rfl
theorem bb_X7_would : m_X7_would.2.2.1 = cX7_would := rfl
theorem bb_X7_ruled : m_X7_ruled.2.2.1 = cX7_ruled := rfl
theorem bb_X7_cost : m_X7_cost.2.2.1 = cX7_cost := rfl
theorem bb_X7_turns : m_X7_turns.2.2.1 = cX7_turns := rfl
theorem bb_X7_exchange : m_X7_exchange.2.2.1 = cX7_exchange := rfl
theorem bb_X7_finds : m_X7_finds.2.2.1 = cX7_finds := rfl
theorem bb_X7_least : m_X7_least.2.2.1 = cX7_least := rfl
theorem bb_X7_best : m_X7_best.2.2.1 = cX7_best := rfl
theorem bb_X7_isSameOrder : m_X7_isSameOrder.2.2.1 = cX7_isSameOrder := rfl
theorem bb_X7_slack : m_X7_slack.2.2.1 = cX7_slack := rfl
theorem bb_X7_see : m_X7_see.2.2.1 = cX7_see := rfl
theorem bb_X7_stands : m_X7_stands.2.2.1 = cX7_stands := rfl
theorem bb_X7_isAllSeen : m_X7_isAllSeen.2.2.1 = cX7_isAllSeen := rfl
theorem bb_X7_fits : m_X7_fits.2.2.1 = cX7_fits := rfl
theorem bb_X7_lowest : m_X7_lowest.2.2.1 = cX7_lowest := rfl
theorem bb_X7_odds : m_X7_odds.2.2.1 = cX7_odds := rfl
theorem bb_X7_mean : m_X7_mean.2.2.1 = cX7_mean := rfl
theorem bb_X7_event : m_X7_event.2.2.1 = cX7_event := rfl
theorem bb_X7_happens : m_X7_happens.2.2.1 = cX7_happens := rfl
theorem bb_X7_after : m_X7_after.2.2.1 = cX7_after := rfl
theorem bb_X7_book : m_X7_book.2.2.1 = cX7_book := rfl
theorem bb_X7_looked : m_X7_looked.2.2.1 = cX7_looked := rfl
theorem bb_X7_isTape : m_X7_isTape.2.2.1 = cX7_isTape := rfl
theorem bb_X7_judge : m_X7_judge.2.2.1 = cX7_judge := rfl
theorem bb_X7_count : m_X7_count.2.2.1 = cX7_count := rfl
theorem bb_X7_tape : m_X7_tape.2.2.1 = cX7_tape := rfl
theorem bb_X7_fit : m_X7_fit.2.2.1 = cX7_fit := rfl
theorem bb_X7_item : m_X7_item.2.2.1 = cX7_item := rfl
theorem bb_X7_peek : m_X7_peek.2.2.1 = cX7_peek := rfl
theorem bb_X7_shift : m_X7_shift.2.2.1 = cX7_shift := rfl
theorem bb_J6_signum_0f7a4 : m_J6_signum_0f7a4.2.2.1 = cJ6_signum_0f7a4 := rfl
theorem bb_J7_fill_d0a16 : m_J7_fill_d0a16.2.2.1 = cJ7_fill_d0a16 := rfl
theorem ff_3_20 : mx_fT 3 20 = some (3, 0) := by decide +kernel
theorem ff_6_84 : mx_fT 6 84 = some (3, 0) := by decide +kernel
theorem ff_2_47 : mx_fT 2 47 = some (3, 0) := by decide +kernel
theorem ff_3_24 : mx_fT 3 24 = some (3, 1) := by decide +kernel
theorem ff_6_107 : mx_fT 6 107 = some (3, 1) := by decide +kernel
theorem ff_3_27 : mx_fT 3 27 = some (3, 2) := by decide +kernel
theorem ff_6_110 : mx_fT 6 110 = some (3, 2) := by decide +kernel
theorem ff_3_11 : mx_fT 3 11 = some (3, 3) := by decide +kernel
theorem ff_6_99 : mx_fT 6 99 = some (3, 3) := by decide +kernel
theorem ff_2_66 : mx_fT 2 66 = some (3, 3) := by decide +kernel
theorem ff_3_16 : mx_fT 3 16 = some (3, 4) := by decide +kernel
theorem ff_6_150 : mx_fT 6 150 = some (3, 4) := by decide +kernel
theorem ff_1_7 : mx_fT 1 7 = some (1, 0) := by decide +kernel
theorem ff_6_257 : mx_fT 6 257 = some (1, 0) := by decide +kernel
theorem ff_1_13 : mx_fT 1 13 = some (1, 1) := by decide +kernel
theorem ff_6_260 : mx_fT 6 260 = some (1, 1) := by decide +kernel
theorem ff_1_16 : mx_fT 1 16 = some (1, 2) := by decide +kernel
theorem ff_6_248 : mx_fT 6 248 = some (1, 2) := by decide +kernel
theorem ff_0_9 : mx_fT 0 9 = some (0, 0) := by decide +kernel
theorem ff_0_15 : mx_fT 0 15 = some (0, 1) := by decide +kernel
theorem ff_0_31 : mx_fT 0 31 = some (0, 2) := by decide +kernel
theorem ff_0_34 : mx_fT 0 34 = some (0, 3) := by decide +kernel
theorem ff_0_46 : mx_fT 0 46 = some (0, 4) := by decide +kernel
theorem ff_0_18 : mx_fT 0 18 = some (0, 5) := by decide +kernel
theorem ff_6_218 : mx_fT 6 218 = some (0, 5) := by decide +kernel
theorem ff_0_43 : mx_fT 0 43 = some (0, 6) := by decide +kernel
theorem ff_6_215 : mx_fT 6 215 = some (0, 6) := by decide +kernel
theorem ff_0_21 : mx_fT 0 21 = some (0, 7) := by decide +kernel
theorem ff_6_175 : mx_fT 6 175 = some (0, 7) := by decide +kernel
theorem ff_0_24 : mx_fT 0 24 = some (0, 8) := by decide +kernel
theorem ff_0_28 : mx_fT 0 28 = some (0, 9) := by decide +kernel
theorem ff_2_11 : mx_fT 2 11 = some (2, 0) := by decide +kernel
theorem ff_2_17 : mx_fT 2 17 = some (2, 1) := by decide +kernel
theorem ff_2_21 : mx_fT 2 21 = some (2, 2) := by decide +kernel
theorem ff_6_231 : mx_fT 6 231 = some (2, 2) := by decide +kernel
theorem ff_2_24 : mx_fT 2 24 = some (2, 3) := by decide +kernel
theorem ff_2_37 : mx_fT 2 37 = some (2, 4) := by decide +kernel
theorem ff_6_228 : mx_fT 6 228 = some (2, 4) := by decide +kernel
theorem ff_2_29 : mx_fT 2 29 = some (2, 5) := by decide +kernel
theorem ff_2_33 : mx_fT 2 33 = some (2, 6) := by decide +kernel
theorem ff_5_9 : mx_fT 5 9 = some (5, 0) := by decide +kernel
theorem ff_5_15 : mx_fT 5 15 = some (5, 1) := by decide +kernel
theorem ff_6_129 : mx_fT 6 129 = some (5, 1) := by decide +kernel
theorem ff_5_18 : mx_fT 5 18 = some (5, 2) := by decide +kernel
theorem ff_6_116 : mx_fT 6 116 = some (5, 2) := by decide +kernel
theorem ff_5_25 : mx_fT 5 25 = some (5, 3) := by decide +kernel
theorem ff_6_126 : mx_fT 6 126 = some (5, 3) := by decide +kernel
theorem ff_5_22 : mx_fT 5 22 = some (5, 4) := by decide +kernel
theorem ff_6_123 : mx_fT 6 123 = some (5, 4) := by decide +kernel
theorem ff_4_9 : mx_fT 4 9 = some (4, 0) := by decide +kernel
theorem ff_6_289 : mx_fT 6 289 = some (4, 0) := by decide +kernel
theorem ff_4_13 : mx_fT 4 13 = some (4, 1) := by decide +kernel
theorem ff_6_279 : mx_fT 6 279 = some (4, 1) := by decide +kernel
theorem ff_4_17 : mx_fT 4 17 = some (4, 2) := by decide +kernel
theorem ff_6_12 : mx_fT 6 12 = some (6, 0) := by decide +kernel
theorem ff_6_23 : mx_fT 6 23 = some (6, 1) := by decide +kernel
theorem ff_6_27 : mx_fT 6 27 = some (6, 2) := by decide +kernel
theorem ff_6_30 : mx_fT 6 30 = some (6, 3) := by decide +kernel
theorem ff_6_33 : mx_fT 6 33 = some (6, 4) := by decide +kernel
theorem ff_6_36 : mx_fT 6 36 = some (6, 5) := by decide +kernel
theorem ff_6_39 : mx_fT 6 39 = some (6, 6) := by decide +kernel
theorem ff_6_42 : mx_fT 6 42 = some (6, 7) := by decide +kernel
theorem ff_6_296 : mx_fT 6 296 = some (6, 8) := by decide +kernel
theorem ff_6_45 : mx_fT 6 45 = some (6, 9) := by decide +kernel
theorem ff_6_48 : mx_fT 6 48 = some (6, 10) := by decide +kernel
theorem ff_6_55 : mx_fT 6 55 = some (6, 11) := by decide +kernel
theorem ff_6_62 : mx_fT 6 62 = some (6, 12) := by decide +kernel
theorem ff_6_69 : mx_fT 6 69 = some (6, 13) := by decide +kernel
theorem ff_6_75 : mx_fT 6 75 = some (6, 14) := by decide +kernel
theorem ff_7_72 : mx_fT 7 72 = some (7, 0) := by decide +kernel
theorem ff_7_91 : mx_fT 7 91 = some (7, 1) := by decide +kernel
theorem ff_7_94 : mx_fT 7 94 = some (7, 2) := by decide +kernel
theorem ff_7_11 : mx_fT 7 11 = some (7, 3) := by decide +kernel
theorem ff_7_15 : mx_fT 7 15 = some (7, 4) := by decide +kernel
theorem ff_7_18 : mx_fT 7 18 = some (7, 5) := by decide +kernel
theorem ff_7_21 : mx_fT 7 21 = some (7, 6) := by decide +kernel
theorem ff_7_24 : mx_fT 7 24 = some (7, 7) := by decide +kernel
theorem ff_7_27 : mx_fT 7 27 = some (7, 8) := by decide +kernel
theorem ff_7_30 : mx_fT 7 30 = some (7, 9) := by decide +kernel
theorem ff_7_33 : mx_fT 7 33 = some (7, 10) := by decide +kernel
theorem ff_7_97 : mx_fT 7 97 = some (7, 11) := by decide +kernel
theorem ff_7_100 : mx_fT 7 100 = some (7, 12) := by decide +kernel
theorem ff_7_103 : mx_fT 7 103 = some (7, 13) := by decide +kernel
theorem ff_7_36 : mx_fT 7 36 = some (7, 14) := by decide +kernel
theorem ff_7_143 : mx_fT 7 143 = some (7, 15) := by decide +kernel
theorem ff_7_39 : mx_fT 7 39 = some (7, 16) := by decide +kernel
theorem ff_7_110 : mx_fT 7 110 = some (7, 17) := by decide +kernel
theorem ff_7_84 : mx_fT 7 84 = some (7, 18) := by decide +kernel
theorem ff_7_80 : mx_fT 7 80 = some (7, 19) := by decide +kernel
theorem ff_7_140 : mx_fT 7 140 = some (7, 20) := by decide +kernel
theorem ff_7_146 : mx_fT 7 146 = some (7, 21) := by decide +kernel
theorem ff_7_185 : mx_fT 7 185 = some (7, 22) := by decide +kernel
theorem ff_7_188 : mx_fT 7 188 = some (7, 23) := by decide +kernel
theorem ff_7_42 : mx_fT 7 42 = some (7, 24) := by decide +kernel
theorem ff_7_45 : mx_fT 7 45 = some (7, 25) := by decide +kernel
theorem ff_7_48 : mx_fT 7 48 = some (7, 26) := by decide +kernel
theorem ff_7_51 : mx_fT 7 51 = some (7, 27) := by decide +kernel
theorem ff_7_54 : mx_fT 7 54 = some (7, 28) := by decide +kernel
theorem ff_7_59 : mx_fT 7 59 = some (7, 29) := by decide +kernel
theorem ff_7_62 : mx_fT 7 62 = some (7, 30) := by decide +kernel
theorem ff_7_65 : mx_fT 7 65 = some (7, 31) := by decide +kernel
theorem ff_7_68 : mx_fT 7 68 = some (7, 32) := by decide +kernel
theorem fk_0_27 : mx_kT 0 27 = some (-1000000) := by decide +kernel
theorem fk_3_50 : mx_kT 3 50 = some (1000000) := by decide +kernel
theorem fk_2_36 : mx_kT 2 36 = some (1000000) := by decide +kernel
theorem fk_7_209 : mx_kT 7 209 = some (-2147483648) := by decide +kernel
theorem fj_6_170 : mx_jT 6 170 = some (-9223372036854775808) := by decide +kernel
theorem fj_7_117 : mx_jT 7 117 = some (30) := by decide +kernel
theorem fj_7_123 : mx_jT 7 123 = some (5) := by decide +kernel
theorem fj_7_132 : mx_jT 7 132 = some (6) := by decide +kernel
theorem fj_7_138 : mx_jT 7 138 = some (2) := by decide +kernel
theorem fj_7_195 : mx_jT 7 195 = some (127) := by decide +kernel
theorem fj_7_159 : mx_jT 7 159 = some (48) := by decide +kernel
theorem fj_7_161 : mx_jT 7 161 = some (57) := by decide +kernel
theorem fj_7_219 : mx_jT 7 219 = some (3) := by decide +kernel
theorem fj_7_246 : mx_jT 7 246 = some (100) := by decide +kernel
theorem fj_7_251 : mx_jT 7 251 = some (-9223372036854775808) := by decide +kernel
theorem fj_7_262 : mx_jT 7 262 = some (12) := by decide +kernel
theorem fj_7_300 : mx_jT 7 300 = some (10) := by decide +kernel
theorem fj_7_313 : mx_jT 7 313 = some (-1) := by decide +kernel
theorem fj_7_315 : mx_jT 7 315 = some (4) := by decide +kernel
theorem fc_6_80 : mx_cTb 6 80 = some (1, m_X6_isWithin, 2) := rfl
theorem fe_6_80 : mx_dT 6 80 = none := by decide +kernel
theorem fc_6_88 : mx_cTb 6 88 = some (0, m_X3_addJob, 3) := rfl
theorem fc_6_92 : mx_cTb 6 92 = some (0, m_X3_hasJob, 1) := rfl
theorem fc_6_96 : mx_cTb 6 96 = some (1, m_X6_isBelow, 2) := rfl
theorem fe_6_96 : mx_dT 6 96 = none := by decide +kernel
theorem fc_6_103 : mx_cTb 6 103 = some (0, m_X3_placeOf, 1) := rfl
theorem fc_6_113 : mx_cTb 6 113 = some (0, m_X5_append, 1) := rfl
theorem fc_6_119 : mx_cTb 6 119 = some (0, m_X5_parse, 0) := rfl
theorem fc_5_28 : mx_cTb 5 28 = some (0, m_X5_takeClause, 1) := rfl
theorem fc_5_36 : mx_cTb 5 36 = some (0, m_X5_takeNumber, 3) := rfl
theorem fc_5_32 : mx_cTb 5 32 = some (0, m_X5_takeSign, 1) := rfl
theorem fc_6_132 : mx_cTb 6 132 = some (0, m_X6_carryOut, 1) := rfl
theorem fc_6_136 : mx_cTb 6 136 = some (0, m_X6_job, 3) := rfl
theorem fc_6_139 : mx_cTb 6 139 = some (0, m_X6_renew, 3) := rfl
theorem fc_6_142 : mx_cTb 6 142 = some (0, m_X6_set, 2) := rfl
theorem fc_6_146 : mx_cTb 6 146 = some (0, m_X3_orderBy, 2) := rfl
theorem fc_3_43 : mx_cTb 3 43 = some (0, m_X3_placeBy, 2) := rfl
theorem fc_3_47 : mx_cTb 3 47 = some (0, m_X3_keyOf, 2) := rfl
theorem fc_6_153 : mx_cTb 6 153 = some (0, m_X3_shiftJob, 3) := rfl
theorem fc_3_39 : mx_cTb 3 39 = some (0, m_X3_hasJob, 1) := rfl
theorem fc_6_157 : mx_cTb 6 157 = some (0, m_X6_isPair, 1) := rfl
theorem fc_6_160 : mx_cTb 6 160 = some (0, m_X6_takeStep, 1) := rfl
theorem fc_6_163 : mx_cTb 6 163 = some (0, m_X6_planCost, 0) := rfl
theorem fc_6_185 : mx_cTb 6 185 = some (0, m_X6_costOf, 4) := rfl
theorem fc_6_208 : mx_cTb 6 208 = some (0, m_X0_open, 0) := rfl
theorem fc_6_211 : mx_cTb 6 211 = some (0, m_X0_press, 2) := rfl
theorem fd_0_37 : mx_dT 0 37 = some 2 := by decide +kernel
theorem fn_0_37 : mx_cTb 0 37 = none := rfl
theorem fc_6_319 : mx_cTb 6 319 = some (0, m_X0_costBy, 1) := rfl
theorem fc_6_167 : mx_cTb 6 167 = some (0, m_X6_movedCost, 2) := rfl
theorem fd_6_310 : mx_dT 6 310 = some 4 := by decide +kernel
theorem fn_6_310 : mx_cTb 6 310 = none := rfl
theorem fc_6_172 : mx_cTb 6 172 = some (0, m_X6_pressPlanUpTo, 1) := rfl
theorem fc_6_178 : mx_cTb 6 178 = some (0, m_X0_timeOfLast, 1) := rfl
theorem fc_6_181 : mx_cTb 6 181 = some (0, m_X6_toldOfJobs, 1) := rfl
theorem fc_6_189 : mx_cTb 6 189 = some (0, m_X3_bound, 0) := rfl
theorem fd_3_51 : mx_dT 3 51 = some 3 := by decide +kernel
theorem fn_3_51 : mx_cTb 3 51 = none := rfl
theorem fd_3_56 : mx_dT 3 56 = some 2 := by decide +kernel
theorem fn_3_56 : mx_cTb 3 56 = none := rfl
theorem fc_6_192 : mx_cTb 6 192 = some (0, m_X6_waited, 0) := rfl
theorem fc_6_195 : mx_cTb 6 195 = some (0, m_X6_turn, 0) := rfl
theorem fc_6_198 : mx_cTb 6 198 = some (0, m_X6_exchanges, 1) := rfl
theorem fc_6_202 : mx_cTb 6 202 = some (0, m_X3_isEasy, 0) := rfl
theorem fc_6_205 : mx_cTb 6 205 = some (0, m_X3_firstListSize, 0) := rfl
theorem fc_6_221 : mx_cTb 6 221 = some (1, m_X6_isGoal, 2) := rfl
theorem fe_6_221 : mx_dT 6 221 = none := by decide +kernel
theorem fc_6_224 : mx_cTb 6 224 = some (0, m_X2_find, 3) := rfl
theorem fc_2_40 : mx_cTb 2 40 = some (0, m_X0_open, 0) := rfl
theorem fc_2_43 : mx_cTb 2 43 = some (1, m_X2_extend, 3) := rfl
theorem fe_2_43 : mx_dT 2 43 = none := by decide +kernel
theorem fc_2_52 : mx_cTb 2 52 = some (0, m_X0_costBy, 1) := rfl
theorem fd_2_56 : mx_dT 2 56 = some 4 := by decide +kernel
theorem fn_2_56 : mx_cTb 2 56 = none := rfl
theorem fc_2_62 : mx_cTb 2 62 = some (0, m_X0_goOnFrom, 1) := rfl
theorem fc_2_70 : mx_cTb 2 70 = some (0, m_X0_press, 2) := rfl
theorem fc_6_234 : mx_cTb 6 234 = some (0, m_X3_copyFrom, 1) := rfl
theorem fd_3_30 : mx_dT 3 30 = some 4 := by decide +kernel
theorem fn_3_30 : mx_cTb 3 30 = none := rfl
theorem fc_6_238 : mx_cTb 6 238 = some (0, m_X6_isListedAlike, 0) := rfl
theorem fc_6_241 : mx_cTb 6 241 = some (0, m_X3_placeBy, 2) := rfl
theorem fc_6_244 : mx_cTb 6 244 = some (0, m_X6_noteIn, 3) := rfl
theorem fc_6_251 : mx_cTb 6 251 = some (0, m_X1_add, 2) := rfl
theorem fc_6_254 : mx_cTb 6 254 = some (0, m_X6_isAsSeen, 0) := rfl
theorem fc_6_263 : mx_cTb 6 263 = some (1, m_X6_partOfFraction, 3) := rfl
theorem fe_6_263 : mx_dT 6 263 = none := by decide +kernel
theorem fc_6_267 : mx_cTb 6 267 = some (0, m_X6_happen, 2) := rfl
theorem fd_6_271 : mx_dT 6 271 = some 3 := by decide +kernel
theorem fn_6_271 : mx_cTb 6 271 = none := rfl
theorem fc_6_276 : mx_cTb 6 276 = some (0, m_X6_at, 1) := rfl
theorem fc_6_282 : mx_cTb 6 282 = some (0, m_X4_hasItem, 1) := rfl
theorem fc_6_285 : mx_cTb 6 285 = some (0, m_X6_firstOtherEnd, 2) := rfl
theorem fc_6_293 : mx_cTb 6 293 = some (0, m_X1_copyFrom, 1) := rfl
theorem fd_1_20 : mx_dT 1 20 = some 3 := by decide +kernel
theorem fn_1_20 : mx_cTb 1 20 = none := rfl
theorem fd_1_26 : mx_dT 1 26 = some 4 := by decide +kernel
theorem fn_1_26 : mx_cTb 1 26 = none := rfl
theorem fc_6_300 : mx_cTb 6 300 = some (0, m_X4_become, 2) := rfl
theorem fc_4_20 : mx_cTb 4 20 = some (1, m_J7_fill_d0a16, 2) := rfl
theorem fe_4_20 : mx_dT 4 20 = none := by decide +kernel
theorem fc_6_303 : mx_cTb 6 303 = some (0, m_X4_fitted, 1) := rfl
theorem fc_6_307 : mx_cTb 6 307 = some (0, m_X4_hasRun, 2) := rfl
theorem fc_7_113 : mx_cTb 7 113 = some (0, m_X7_passesAll, 1) := rfl
theorem fc_7_87 : mx_cTb 7 87 = some (0, m_X7_passes, 1) := rfl
theorem fc_7_106 : mx_cTb 7 106 = some (0, m_X7_passesRow, 1) := rfl
theorem fc_7_76 : mx_cTb 7 76 = some (1, m_X7_in, 3) := rfl
theorem fe_7_76 : mx_dT 7 76 = none := by decide +kernel
theorem fc_7_119 : mx_cTb 7 119 = some (0, m_X7_isJob, 1) := rfl
theorem fc_7_125 : mx_cTb 7 125 = some (1, m_X7_most, 1) := rfl
theorem fe_7_125 : mx_dT 7 125 = none := by decide +kernel
theorem fc_7_128 : mx_cTb 7 128 = some (0, m_X7_get, 2) := rfl
theorem fc_7_134 : mx_cTb 7 134 = some (0, m_X7_placeOf, 2) := rfl
theorem fc_7_197 : mx_cTb 7 197 = some (0, m_X7_goesThrough, 1) := rfl
theorem fc_7_191 : mx_cTb 7 191 = some (0, m_X7_clause, 1) := rfl
theorem fc_7_149 : mx_cTb 7 149 = some (0, m_X7_here, 0) := rfl
theorem fc_7_181 : mx_cTb 7 181 = some (0, m_X7_rest, 2) := rfl
theorem fc_7_163 : mx_cTb 7 163 = some (0, m_X7_takesNumber, 0) := rfl
theorem fc_7_156 : mx_cTb 7 156 = some (0, m_X7_takesDigit, 0) := rfl
theorem fc_7_153 : mx_cTb 7 153 = some (0, m_X7_takes, 2) := rfl
theorem fc_7_166 : mx_cTb 7 166 = some (0, m_X7_job, 3) := rfl
theorem fc_7_170 : mx_cTb 7 170 = some (0, m_X7_set, 2) := rfl
theorem fc_7_173 : mx_cTb 7 173 = some (0, m_X7_renew, 3) := rfl
theorem fd_7_176 : mx_dT 7 176 = some 3 := by decide +kernel
theorem fn_7_176 : mx_cTb 7 176 = none := rfl
theorem fc_7_221 : mx_cTb 7 221 = some (0, m_X7_orders, 2) := rfl
theorem fc_7_216 : mx_cTb 7 216 = some (0, m_X7_weight, 2) := rfl
theorem fc_7_213 : mx_cTb 7 213 = some (0, m_X7_isFirst, 1) := rfl
theorem fc_7_225 : mx_cTb 7 225 = some (1, m_X7_shifts, 3) := rfl
theorem fe_7_225 : mx_dT 7 225 = none := by decide +kernel
theorem fc_7_229 : mx_cTb 7 229 = some (0, m_X7_isPair, 1) := rfl
theorem fc_7_248 : mx_cTb 7 248 = some (0, m_X7_betters, 1) := rfl
theorem fc_7_240 : mx_cTb 7 240 = some (0, m_X7_now, 0) := rfl
theorem fc_7_236 : mx_cTb 7 236 = some (0, m_X7_costOf, 3) := rfl
theorem fc_7_203 : mx_cTb 7 203 = some (0, m_X7_goes, 2) := rfl
theorem fd_7_200 : mx_dT 7 200 = some 2 := by decide +kernel
theorem fn_7_200 : mx_cTb 7 200 = none := rfl
theorem fc_7_210 : mx_cTb 7 210 = some (0, m_X7_ends, 1) := rfl
theorem fc_7_243 : mx_cTb 7 243 = some (0, m_X7_wouldCost, 2) := rfl
theorem fc_7_232 : mx_cTb 7 232 = some (1, m_X7_copies, 2) := rfl
theorem fe_7_232 : mx_dT 7 232 = none := by decide +kernel
theorem fc_7_253 : mx_cTb 7 253 = some (0, m_X7_together, 1) := rfl
theorem fc_7_259 : mx_cTb 7 259 = some (0, m_X7_lowestOf, 2) := rfl
theorem fc_7_264 : mx_cTb 7 264 = some (0, m_X7_waited, 0) := rfl
theorem fc_7_267 : mx_cTb 7 267 = some (0, m_X7_turn, 0) := rfl
theorem fc_7_270 : mx_cTb 7 270 = some (0, m_X7_exchanges, 1) := rfl
theorem fc_7_256 : mx_cTb 7 256 = some (1, m_J6_signum_0f7a4, 1) := rfl
theorem fe_7_256 : mx_dT 7 256 = none := by decide +kernel
theorem fc_7_273 : mx_cTb 7 273 = some (0, m_X7_easy, 0) := rfl
theorem fc_7_276 : mx_cTb 7 276 = some (0, m_X7_firsts, 0) := rfl
theorem fc_7_286 : mx_cTb 7 286 = some (0, m_X7_finds, 2) := rfl
theorem fc_7_282 : mx_cTb 7 282 = some (0, m_X7_turns, 1) := rfl
theorem fc_7_279 : mx_cTb 7 279 = some (1, m_X7_exchange, 3) := rfl
theorem fe_7_279 : mx_dT 7 279 = none := by decide +kernel
theorem fc_7_289 : mx_cTb 7 289 = some (0, m_X7_isSameOrder, 0) := rfl
theorem fc_7_297 : mx_cTb 7 297 = some (0, m_X7_isAllSeen, 0) := rfl
theorem fc_7_293 : mx_cTb 7 293 = some (0, m_X7_stands, 3) := rfl
theorem fc_7_302 : mx_cTb 7 302 = some (1, m_X7_lowest, 3) := rfl
theorem fe_7_302 : mx_dT 7 302 = none := by decide +kernel
theorem fc_7_306 : mx_cTb 7 306 = some (0, m_X7_happens, 2) := rfl
theorem fc_7_310 : mx_cTb 7 310 = some (1, m_X7_isTape, 1) := rfl
theorem fe_7_310 : mx_dT 7 310 = none := by decide +kernel
theorem fc_7_317 : mx_cTb 7 317 = some (1, m_X7_fit, 2) := rfl
theorem fe_7_317 : mx_dT 7 317 = none := by decide +kernel
