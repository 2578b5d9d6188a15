abbrev wy_X6_init : ww_Yd := (yX6_init, cX6_init, 2, none, [])
abbrev wy_Jx4a65c_init_da8c8 : ww_Yd := (yJx4a65c_init_da8c8, cJx4a65c_init_da8c8, 1, none, [])
abbrev wy_Jxc12de_init_da8c8 : ww_Yd := (yJxc12de_init_da8c8, cJxc12de_init_da8c8, 1, none, [])
abbrev wy_Jxa1e45_init_da8c8 : ww_Yd := (yJxa1e45_init_da8c8, cJxa1e45_init_da8c8, 1, none, [])
abbrev wy_X2_init : ww_Yd := (yX2_init, cX2_init, 1, none, [])
abbrev wy_X5_init : ww_Yd := (yX5_init, cX5_init, 1, none, [])
abbrev wy_X1_init : ww_Yd := (yX1_init, cX1_init, 1, none, [])
abbrev wy_X6_plan : ww_Yd := (yX6_plan, cX6_plan, 1, (some .int), [])
abbrev wy_X5_makePlan : ww_Yd := (yX5_makePlan, cX5_makePlan, 1, (some .int), [])
abbrev wy_X5_markBlocked : ww_Yd := (yX5_markBlocked, cX5_markBlocked, 3, none, [])
abbrev wy_Jx4a65c_size_8abf5 : ww_Yd := (yJx4a65c_size_8abf5, cJx4a65c_size_8abf5, 1, (some .int), [])
abbrev wy_Jx4a65c_get_915e3 : ww_Yd := (yJx4a65c_get_915e3, cJx4a65c_get_915e3, 2, (some (.object "java/lang/Object")), [])
abbrev wy_J15_checkIndex_7cf53 : ww_Yd := (yJ15_checkIndex_7cf53, cJ15_checkIndex_7cf53, 2, (some .int), [])
abbrev wy_J3_checkIndex_8e157 : ww_Yd := (yJ3_checkIndex_8e157, cJ3_checkIndex_8e157, 3, (some .int), [])
abbrev wy_Jx4a65c_elementData_915e3 : ww_Yd := (yJx4a65c_elementData_915e3, cJx4a65c_elementData_915e3, 2, (some (.object "java/lang/Object")), [])
abbrev wy_X5_searchPlan : ww_Yd := (yX5_searchPlan, cX5_searchPlan, 6, none, [])
abbrev wy_X5_trainsIn : ww_Yd := (yX5_trainsIn, cX5_trainsIn, 2, (some .int), [])
abbrev wy_J6_bitCount_0f7a4 : ww_Yd := (yJ6_bitCount_0f7a4, cJ6_bitCount_0f7a4, 1, (some .int), [])
abbrev wy_X5_bitOf : ww_Yd := (yX5_bitOf, cX5_bitOf, 2, (some .int), [])
abbrev wy_X6_planAnew : ww_Yd := (yX6_planAnew, cX6_planAnew, 1, (some .int), [])
abbrev wy_X5_makePlanAnew : ww_Yd := (yX5_makePlanAnew, cX5_makePlanAnew, 1, (some .int), [])
abbrev wy_X5_fewestMoves : ww_Yd := (yX5_fewestMoves, cX5_fewestMoves, 7, (some .int), [])
abbrev wy_J9_min_7cf53 : ww_Yd := (yJ9_min_7cf53, cJ9_min_7cf53, 2, (some .int), [])
abbrev wy_L_part : ww_Yd := (yL_part, cL_part, 6, (some .int), [(0, 12, 15, 13), (0, 12, 19, 15)])
abbrev wy_X6_part : ww_Yd := (yX6_part, cX6_part, 6, (some .int), [])
abbrev wy_X6_limitsOf : ww_Yd := (yX6_limitsOf, cX6_limitsOf, 2, (some (.object "WheelWorks$KindLimits")), [])
abbrev wy_X6_isOutside : ww_Yd := (yX6_isOutside, cX6_isOutside, 3, (some .boolean), [])
abbrev wy_X3_init : ww_Yd := (yX3_init, cX3_init, 6, none, [])
abbrev wy_X4_init : ww_Yd := (yX4_init, cX4_init, 1, none, [])
abbrev wy_Jx4a65c_add_9ea2d : ww_Yd := (yJx4a65c_add_9ea2d, cJx4a65c_add_9ea2d, 2, (some .boolean), [])
abbrev wy_Jx4a65c_add_72be8 : ww_Yd := (yJx4a65c_add_72be8, cJx4a65c_add_72be8, 4, none, [])
abbrev wy_Jx4a65c_grow_d5877 : ww_Yd := (yJx4a65c_grow_d5877, cJx4a65c_grow_d5877, 1, (some (.array (.object "java/lang/Object"))), [])
abbrev wy_Jx4a65c_grow_92f84 : ww_Yd := (yJx4a65c_grow_92f84, cJx4a65c_grow_92f84, 4, (some (.array (.object "java/lang/Object"))), [])
abbrev wy_J8_newLength_cabcc : ww_Yd := (yJ8_newLength_cabcc, cJ8_newLength_cabcc, 4, (some .int), [])
abbrev wy_J9_max_7cf53 : ww_Yd := (yJ9_max_7cf53, cJ9_max_7cf53, 2, (some .int), [])
abbrev wy_J8_hugeLength_7cf53 : ww_Yd := (yJ8_hugeLength_7cf53, cJ8_hugeLength_7cf53, 3, (some .int), [])
abbrev wy_J7_copyOf_1904c : ww_Yd := (yJ7_copyOf_1904c, cJ7_copyOf_1904c, 2, (some (.array (.object "java/lang/Object"))), [])
abbrev wy_J7_copyOf_6403c : ww_Yd := (yJ7_copyOf_6403c, cJ7_copyOf_6403c, 4, (some (.array (.object "java/lang/Object"))), [])
abbrev wy_L_limits : ww_Yd := (yL_limits, cL_limits, 7, (some .int), [(0, 14, 17, 13)])
abbrev wy_X6_limits : ww_Yd := (yX6_limits, cX6_limits, 7, (some .int), [])
abbrev wy_L_fit : ww_Yd := (yL_fit, cL_fit, 5, (some .int), [(0, 10, 13, 25), (0, 10, 17, 13), (0, 10, 21, 15)])
abbrev wy_X6_fit : ww_Yd := (yX6_fit, cX6_fit, 6, (some .int), [])
abbrev wy_X6_existing : ww_Yd := (yX6_existing, cX6_existing, 2, (some (.object "WheelWorks$Part")), [])
abbrev wy_X6_placesFor : ww_Yd := (yX6_placesFor, cX6_placesFor, 2, (some .int), [])
abbrev wy_X3_isInStore : ww_Yd := (yX3_isInStore, cX3_isInStore, 1, (some .boolean), [])
abbrev wy_X3_isBound : ww_Yd := (yX3_isBound, cX3_isBound, 1, (some .boolean), [])
abbrev wy_X3_top : ww_Yd := (yX3_top, cX3_top, 3, (some (.object "WheelWorks$Part")), [])
abbrev wy_X6_inside : ww_Yd := (yX6_inside, cX6_inside, 6, (some .int), [])
abbrev wy_J9_abs_0f7a4 : ww_Yd := (yJ9_abs_0f7a4, cJ9_abs_0f7a4, 1, (some .int), [])
abbrev wy_X2_addMove : ww_Yd := (yX2_addMove, cX2_addMove, 3, none, [])
abbrev wy_X0_init : ww_Yd := (yX0_init, cX0_init, 4, none, [])
abbrev wy_X2_add : ww_Yd := (yX2_add, cX2_add, 2, none, [])
abbrev wy_X6_inside_ : ww_Yd := (yX6_inside_, cX6_inside_, 4, (some .int), [])
abbrev wy_L_take : ww_Yd := (yL_take, cL_take, 4, (some .int), [(0, 9, 12, 25), (0, 9, 15, 15)])
abbrev wy_X6_take : ww_Yd := (yX6_take, cX6_take, 4, (some .int), [])
abbrev wy_L_scrap : ww_Yd := (yL_scrap, cL_scrap, 3, (some .int), [(0, 5, 8, 25), (0, 5, 11, 15)])
abbrev wy_X6_scrap : ww_Yd := (yX6_scrap, cX6_scrap, 3, none, [])
abbrev wy_X5_isWaiting : ww_Yd := (yX5_isWaiting, cX5_isWaiting, 3, (some .boolean), [])
abbrev wy_L_run : ww_Yd := (yL_run, cL_run, 6, (some .int), [(0, 12, 15, 25), (0, 12, 19, 13), (0, 12, 23, 15)])
abbrev wy_X6_run : ww_Yd := (yX6_run, cX6_run, 8, (some .int), [])
abbrev wy_X6_existingTrain : ww_Yd := (yX6_existingTrain, cX6_existingTrain, 3, (some (.object "WheelWorks$Part")), [])
abbrev wy_X6_checkRun : ww_Yd := (yX6_checkRun, cX6_checkRun, 2, none, [])
abbrev wy_X2_addRun : ww_Yd := (yX2_addRun, cX2_addRun, 3, none, [])
abbrev wy_X6_rubbing : ww_Yd := (yX6_rubbing, cX6_rubbing, 1, (some .int), [])
abbrev wy_X3_runs : ww_Yd := (yX3_runs, cX3_runs, 4, none, [])
abbrev wy_X4_wear : ww_Yd := (yX4_wear, cX4_wear, 3, none, [])
abbrev wy_X3_growFlaw : ww_Yd := (yX3_growFlaw, cX3_growFlaw, 3, none, [])
abbrev wy_X6_quarantineTree : ww_Yd := (yX6_quarantineTree, cX6_quarantineTree, 4, none, [])
abbrev wy_L_turn : ww_Yd := (yL_turn, cL_turn, 4, (some .int), [(0, 9, 12, 25), (0, 9, 15, 13), (0, 9, 18, 15)])
abbrev wy_X6_turn : ww_Yd := (yX6_turn, cX6_turn, 7, (some .int), [])
abbrev wy_X6_wheelIn : ww_Yd := (yX6_wheelIn, cX6_wheelIn, 6, (some (.object "WheelWorks$Wheel")), [])
abbrev wy_X4_renewFlange : ww_Yd := (yX4_renewFlange, cX4_renewFlange, 1, none, [])
abbrev wy_L_gate : ww_Yd := (yL_gate, cL_gate, 5, (some .int), [(0, 10, 13, 25), (0, 10, 17, 13)])
abbrev wy_X6_gate : ww_Yd := (yX6_gate, cX6_gate, 4, (some .int), [])
abbrev wy_X6_existingWheel : ww_Yd := (yX6_existingWheel, cX6_existingWheel, 3, (some (.object "WheelWorks$Wheel")), [])
abbrev wy_L_examine : ww_Yd := (yL_examine, cL_examine, 4, (some .int), [(0, 9, 12, 25), (0, 9, 15, 15)])
abbrev wy_X6_examine : ww_Yd := (yX6_examine, cX6_examine, 4, (some .int), [])
abbrev wy_X3_mayBeExamined : ww_Yd := (yX3_mayBeExamined, cX3_mayBeExamined, 1, (some .boolean), [])
abbrev wy_L_waive : ww_Yd := (yL_waive, cL_waive, 4, (some .int), [(0, 6, 9, 25), (0, 6, 12, 13), (0, 6, 15, 15)])
abbrev wy_X6_waive : ww_Yd := (yX6_waive, cX6_waive, 4, none, [])
abbrev wy_L_flaw : ww_Yd := (yL_flaw, cL_flaw, 5, (some .int), [(0, 10, 13, 25), (0, 10, 17, 13)])
abbrev wy_X6_flaw : ww_Yd := (yX6_flaw, cX6_flaw, 5, (some .int), [])
abbrev wy_L_look : ww_Yd := (yL_look, cL_look, 5, (some .int), [(0, 10, 13, 25), (0, 10, 17, 15)])
abbrev wy_X6_look : ww_Yd := (yX6_look, cX6_look, 4, (some .int), [])
abbrev wy_L_clear : ww_Yd := (yL_clear, cL_clear, 4, (some .int), [(0, 9, 12, 25), (0, 9, 15, 15)])
abbrev wy_X6_clear : ww_Yd := (yX6_clear, cX6_clear, 4, (some .int), [])
abbrev wy_L_recall : ww_Yd := (yL_recall, cL_recall, 4, (some .int), [(0, 9, 12, 13)])
abbrev wy_X6_recall : ww_Yd := (yX6_recall, cX6_recall, 5, (some .int), [])
abbrev wy_L_release : ww_Yd := (yL_release, cL_release, 4, (some .int), [(0, 9, 12, 25), (0, 9, 15, 13)])
abbrev wy_X6_release : ww_Yd := (yX6_release, cX6_release, 4, (some .int), [])
abbrev wy_X6_firstBar : ww_Yd := (yX6_firstBar, cX6_firstBar, 3, (some .int), [])
abbrev wy_X6_lowestBarring : ww_Yd := (yX6_lowestBarring, cX6_lowestBarring, 5, (some .int), [])
abbrev wy_X6_isSo : ww_Yd := (yX6_isSo, cX6_isSo, 3, (some .boolean), [])
abbrev wy_X6_hasEmptyPlace : ww_Yd := (yX6_hasEmptyPlace, cX6_hasEmptyPlace, 3, (some .boolean), [])
abbrev wy_X4_isWorn : ww_Yd := (yX4_isWorn, cX4_isWorn, 1, (some .boolean), [])
abbrev wy_X6_isApart : ww_Yd := (yX6_isApart, cX6_isApart, 2, (some .boolean), [])
abbrev wy_X6_spreadIn : ww_Yd := (yX6_spreadIn, cX6_spreadIn, 6, (some .int), [])
abbrev wy_X3_isWithin : ww_Yd := (yX3_isWithin, cX3_isWithin, 4, (some .boolean), [])
abbrev wy_X3_isExaminationDue : ww_Yd := (yX3_isExaminationDue, cX3_isExaminationDue, 1, (some .boolean), [])
abbrev wy_L_comes : ww_Yd := (yL_comes, cL_comes, 5, (some .int), [(0, 10, 13, 25), (0, 10, 17, 13), (0, 10, 21, 15)])
abbrev wy_X6_comes : ww_Yd := (yX6_comes, cX6_comes, 4, (some .int), [])
abbrev wy_X5_isTaken : ww_Yd := (yX5_isTaken, cX5_isTaken, 3, (some .boolean), [])
abbrev wy_L_night : ww_Yd := (yL_night, cL_night, 3, (some .int), [(0, 8, 11, 15)])
abbrev wy_X6_night : ww_Yd := (yX6_night, cX6_night, 1, (some .int), [])
abbrev wy_Jx4a65c_isEmpty_aae02 : ww_Yd := (yJx4a65c_isEmpty_aae02, cJx4a65c_isEmpty_aae02, 1, (some .boolean), [])
abbrev wy_X5_park : ww_Yd := (yX5_park, cX5_park, 4, (some .int), [])
abbrev wy_X5_roadIn : ww_Yd := (yX5_roadIn, cX5_roadIn, 3, (some .int), [])
abbrev wy_Jx4a65c_clear_da8c8 : ww_Yd := (yJx4a65c_clear_da8c8, cJx4a65c_clear_da8c8, 4, none, [])
abbrev wy_L_out : ww_Yd := (yL_out, cL_out, 3, (some .int), [(0, 8, 11, 15)])
abbrev wy_X6_out : ww_Yd := (yX6_out, cX6_out, 1, (some .int), [])
abbrev wy_X5_sendFirst : ww_Yd := (yX5_sendFirst, cX5_sendFirst, 5, (some .int), [])
abbrev wy_Jx4a65c_remove_915e3 : ww_Yd := (yJx4a65c_remove_915e3, cJx4a65c_remove_915e3, 4, (some (.object "java/lang/Object")), [])
abbrev wy_Jx4a65c_fastRemove_b59b0 : ww_Yd := (yJx4a65c_fastRemove_b59b0, cJx4a65c_fastRemove_b59b0, 4, none, [])
abbrev wy_L_host : ww_Yd := (yL_host, cL_host, 4, (some .int), [(0, 9, 12, 25)])
abbrev wy_X6_host : ww_Yd := (yX6_host, cX6_host, 2, (some .int), [])
abbrev wy_X3_whereabouts : ww_Yd := (yX3_whereabouts, cX3_whereabouts, 1, (some .int), [])
abbrev wy_L_head : ww_Yd := (yL_head, cL_head, 4, (some .int), [(0, 9, 12, 25)])
abbrev wy_X6_head : ww_Yd := (yX6_head, cX6_head, 2, (some .int), [])
abbrev wy_L_ofPart : ww_Yd := (yL_ofPart, cL_ofPart, 5, (some .int), [(0, 10, 13, 25), (0, 10, 17, 13)])
abbrev wy_X6_ofPart : ww_Yd := (yX6_ofPart, cX6_ofPart, 4, (some .int), [])
abbrev wy_X2_movesOf : ww_Yd := (yX2_movesOf, cX2_movesOf, 4, (some .int), [])
abbrev wy_X2_isMoveOf : ww_Yd := (yX2_isMoveOf, cX2_isMoveOf, 2, (some .boolean), [])
abbrev wy_L_trace : ww_Yd := (yL_trace, cL_trace, 5, (some .int), [(0, 10, 13, 25)])
abbrev wy_X6_trace : ww_Yd := (yX6_trace, cX6_trace, 5, (some .int), [])
abbrev wy_X2_moveOf : ww_Yd := (yX2_moveOf, cX2_moveOf, 6, (some (.object "WheelWorks$Event")), [])
abbrev wy_L_lifeAnew : ww_Yd := (yL_lifeAnew, cL_lifeAnew, 4, (some .int), [(0, 9, 12, 25)])
abbrev wy_X6_lifeAnew : ww_Yd := (yX6_lifeAnew, cX6_lifeAnew, 2, (some .int), [])
abbrev wy_X2_lifeOf : ww_Yd := (yX2_lifeOf, cX2_lifeOf, 5, (some .int), [])
abbrev wy_X2_topThen : ww_Yd := (yX2_topThen, cX2_topThen, 4, (some .int), [])
abbrev wy_X2_isPart : ww_Yd := (yX2_isPart, cX2_isPart, 2, (some .boolean), [])
abbrev wy_L_wheel : ww_Yd := (yL_wheel, cL_wheel, 5, (some .int), [(0, 10, 13, 25), (0, 10, 17, 13)])
abbrev wy_X6_wheel : ww_Yd := (yX6_wheel, cX6_wheel, 4, (some .int), [])
abbrev wy_L_foretell : ww_Yd := (yL_foretell, cL_foretell, 6, (some .int), [(0, 12, 15, 25), (0, 12, 19, 13)])
abbrev wy_X6_foretell : ww_Yd := (yX6_foretell, cX6_foretell, 6, (some .int), [])
abbrev wy_L_bars : ww_Yd := (yL_bars, cL_bars, 4, (some .int), [(0, 9, 12, 25), (0, 9, 15, 13)])
abbrev wy_X6_bars : ww_Yd := (yX6_bars, cX6_bars, 2, (some .int), [])
abbrev wy_L_barredBy : ww_Yd := (yL_barredBy, cL_barredBy, 4, (some .int), [(0, 9, 12, 25), (0, 9, 15, 13)])
abbrev wy_X6_barredBy : ww_Yd := (yX6_barredBy, cX6_barredBy, 3, (some .int), [])
abbrev wy_L_isReleased : ww_Yd := (yL_isReleased, cL_isReleased, 4, (some .int), [(0, 16, 19, 25), (0, 16, 22, 13)])
abbrev wy_X6_isReleased : ww_Yd := (yX6_isReleased, cX6_isReleased, 2, (some .boolean), [])
abbrev wy_L_road : ww_Yd := (yL_road, cL_road, 5, (some .int), [(0, 10, 13, 25)])
abbrev wy_X6_road : ww_Yd := (yX6_road, cX6_road, 3, (some .int), [])
abbrev wy_X5_trainOn : ww_Yd := (yX5_trainOn, cX5_trainOn, 6, (some .int), [])
abbrev wy_X7_init : ww_Yd := (yX7_init, cX7_init, 1, none, [])
abbrev wy_X7_thrown : ww_Yd := (yX7_thrown, cX7_thrown, 1, (some .int), [])
abbrev wy_X7_part : ww_Yd := (yX7_part, cX7_part, 4, (some .int), [])
abbrev wy_X7_in : ww_Yd := (yX7_in, cX7_in, 3, (some .boolean), [])
abbrev wy_X7_limits : ww_Yd := (yX7_limits, cX7_limits, 6, (some .int), [])
abbrev wy_X7_fit : ww_Yd := (yX7_fit, cX7_fit, 5, (some .int), [])
abbrev wy_X7_isPart : ww_Yd := (yX7_isPart, cX7_isPart, 2, (some .boolean), [])
abbrev wy_X7_places : ww_Yd := (yX7_places, cX7_places, 2, (some .int), [])
abbrev wy_X7_isBound : ww_Yd := (yX7_isBound, cX7_isBound, 2, (some .boolean), [])
abbrev wy_X7_headOf : ww_Yd := (yX7_headOf, cX7_headOf, 3, (some .int), [])
abbrev wy_X7_inside : ww_Yd := (yX7_inside, cX7_inside, 5, (some .int), [])
abbrev wy_X7_moves : ww_Yd := (yX7_moves, cX7_moves, 3, none, [])
abbrev wy_X7_ends : ww_Yd := (yX7_ends, cX7_ends, 2, none, [])
abbrev wy_X7_take : ww_Yd := (yX7_take, cX7_take, 3, (some .int), [])
abbrev wy_X7_scrap : ww_Yd := (yX7_scrap, cX7_scrap, 2, none, [])
abbrev wy_X7_waits : ww_Yd := (yX7_waits, cX7_waits, 4, (some .boolean), [])
abbrev wy_X7_run : ww_Yd := (yX7_run, cX7_run, 6, (some .int), [])
abbrev wy_X7_kindCode : ww_Yd := (yX7_kindCode, cX7_kindCode, 3, (some .int), [])
abbrev wy_X7_isIn : ww_Yd := (yX7_isIn, cX7_isIn, 3, (some .boolean), [])
abbrev wy_X7_goes : ww_Yd := (yX7_goes, cX7_goes, 7, none, [])
abbrev wy_X7_factor : ww_Yd := (yX7_factor, cX7_factor, 1, (some .int), [])
abbrev wy_X7_turn : ww_Yd := (yX7_turn, cX7_turn, 6, (some .int), [])
abbrev wy_X7_wheelsetOf : ww_Yd := (yX7_wheelsetOf, cX7_wheelsetOf, 6, (some .int), [])
abbrev wy_X7_trues : ww_Yd := (yX7_trues, cX7_trues, 3, (some .int), [])
abbrev wy_X7_gate : ww_Yd := (yX7_gate, cX7_gate, 3, (some .int), [])
abbrev wy_X7_examine : ww_Yd := (yX7_examine, cX7_examine, 5, (some .int), [])
abbrev wy_X7_waive : ww_Yd := (yX7_waive, cX7_waive, 3, none, [])
abbrev wy_X7_flaw : ww_Yd := (yX7_flaw, cX7_flaw, 4, (some .int), [])
abbrev wy_X7_look : ww_Yd := (yX7_look, cX7_look, 3, (some .int), [])
abbrev wy_X7_holds : ww_Yd := (yX7_holds, cX7_holds, 2, none, [])
abbrev wy_X7_clear : ww_Yd := (yX7_clear, cX7_clear, 3, (some .int), [])
abbrev wy_X7_recall : ww_Yd := (yX7_recall, cX7_recall, 4, (some .int), [])
abbrev wy_X7_release : ww_Yd := (yX7_release, cX7_release, 3, (some .int), [])
abbrev wy_X7_barOf : ww_Yd := (yX7_barOf, cX7_barOf, 4, (some .int), [])
abbrev wy_X7_barsBy : ww_Yd := (yX7_barsBy, cX7_barsBy, 3, (some .boolean), [])
abbrev wy_X7_hasEmpty : ww_Yd := (yX7_hasEmpty, cX7_hasEmpty, 2, (some .boolean), [])
abbrev wy_X7_isWorn : ww_Yd := (yX7_isWorn, cX7_isWorn, 2, (some .boolean), [])
abbrev wy_X7_apartIn : ww_Yd := (yX7_apartIn, cX7_apartIn, 6, (some .int), [])
abbrev wy_X7_isDue : ww_Yd := (yX7_isDue, cX7_isDue, 3, (some .boolean), [])
abbrev wy_X7_comes : ww_Yd := (yX7_comes, cX7_comes, 5, (some .int), [])
abbrev wy_X7_night : ww_Yd := (yX7_night, cX7_night, 3, (some .int), [])
abbrev wy_X7_plans : ww_Yd := (yX7_plans, cX7_plans, 7, (some .int), [])
abbrev wy_X7_movesOf : ww_Yd := (yX7_movesOf, cX7_movesOf, 6, (some .int), [])
abbrev wy_X7_out : ww_Yd := (yX7_out, cX7_out, 6, (some .int), [])
abbrev wy_X7_host : ww_Yd := (yX7_host, cX7_host, 2, (some .int), [])
abbrev wy_X7_head : ww_Yd := (yX7_head, cX7_head, 2, (some .int), [])
abbrev wy_X7_ofPart : ww_Yd := (yX7_ofPart, cX7_ofPart, 3, (some .int), [])
abbrev wy_X7_movesOfPart : ww_Yd := (yX7_movesOfPart, cX7_movesOfPart, 4, (some .int), [])
abbrev wy_X7_trace : ww_Yd := (yX7_trace, cX7_trace, 5, (some .int), [])
abbrev wy_X7_lifeAnew : ww_Yd := (yX7_lifeAnew, cX7_lifeAnew, 2, (some .int), [])
abbrev wy_X7_wheel : ww_Yd := (yX7_wheel, cX7_wheel, 3, (some .int), [])
abbrev wy_X7_foretell : ww_Yd := (yX7_foretell, cX7_foretell, 5, (some .int), [])
abbrev wy_X7_bars : ww_Yd := (yX7_bars, cX7_bars, 2, (some .int), [])
abbrev wy_X7_barredBy : ww_Yd := (yX7_barredBy, cX7_barredBy, 3, (some .int), [])
abbrev wy_X7_isReleased : ww_Yd := (yX7_isReleased, cX7_isReleased, 2, (some .boolean), [])
abbrev wy_X7_plan : ww_Yd := (yX7_plan, cX7_plan, 1, (some .int), [])
abbrev wy_X7_planAnew : ww_Yd := (yX7_planAnew, cX7_planAnew, 1, (some .int), [])
abbrev wy_X7_road : ww_Yd := (yX7_road, cX7_road, 3, (some .int), [])
abbrev wy_L_law : ww_Yd := (yL_law, cL_law, maxLocals, ret, [])
theorem wu_0 : ∀ w ∈ u_ws RJx4a65c TJx4a65c 3, w ∈ ww_GW := by
  intro w hw
  obtain ⟨k, hk, rfl⟩ := List.mem_map.mp hw
  have hk := List.mem_range.mp hk
  have h1 : ∀ k, k < 3 → lw_tbl[([102, 98, 100] : List Nat).getD k 0]? = some (u_lay RJx4a65c TJx4a65c k) := by decide +kernel
  have h2 : ∀ k, k < 3 → goodWord (u_lay RJx4a65c TJx4a65c k) = true := by decide +kernel
  exact ww_gw (List.mem_of_getElem? (h1 k hk)) (h2 k hk)
theorem wt_0_0 {y : MethodName} : ww_fst y 0 0 (tyJx4a65c 0) := ⟨(RJx4a65c, TJx4a65c, 3), tyJx4a65c, rfl, tyJx4a65c_ok, nmJx4a65c, Or.inl rfl, tyJx4a65c_ok 0 (by decide)⟩
theorem wt_0_1 {y : MethodName} : ww_fst y 0 1 (tyJx4a65c 1) := ⟨(RJx4a65c, TJx4a65c, 3), tyJx4a65c, rfl, tyJx4a65c_ok, nmJx4a65c, Or.inl rfl, tyJx4a65c_ok 1 (by decide)⟩
theorem wt_0_2 {y : MethodName} : ww_fst y 0 2 (tyJx4a65c 2) := ⟨(RJx4a65c, TJx4a65c, 3), tyJx4a65c, rfl, tyJx4a65c_ok, nmJx4a65c, Or.inl rfl, tyJx4a65c_ok 2 (by decide)⟩
theorem wu_1 : ∀ w ∈ u_ws RX0 TX0 3, w ∈ ww_GW := by
  intro w hw
  obtain ⟨k, hk, rfl⟩ := List.mem_map.mp hw
  have hk := List.mem_range.mp hk
  have h1 : ∀ k, k < 3 → lw_tbl[([578, 580, 582] : List Nat).getD k 0]? = some (u_lay RX0 TX0 k) := by decide +kernel
  have h2 : ∀ k, k < 3 → goodWord (u_lay RX0 TX0 k) = true := by decide +kernel
  exact ww_gw (List.mem_of_getElem? (h1 k hk)) (h2 k hk)
theorem wt_1_0 : ww_fst yX0_init 1 0 (tyX0 0) := ⟨(RX0, TX0, 3), tyX0, rfl, tyX0_ok, nmX0, Or.inr ⟨rfl, rfl, rfl⟩, tyX0_ok 0 (by decide)⟩
theorem wt_1_1 : ww_fst yX0_init 1 1 (tyX0 1) := ⟨(RX0, TX0, 3), tyX0, rfl, tyX0_ok, nmX0, Or.inr ⟨rfl, rfl, rfl⟩, tyX0_ok 1 (by decide)⟩
theorem wt_1_2 : ww_fst yX0_init 1 2 (tyX0 2) := ⟨(RX0, TX0, 3), tyX0, rfl, tyX0_ok, nmX0, Or.inr ⟨rfl, rfl, rfl⟩, tyX0_ok 2 (by decide)⟩
theorem wu_2 : ∀ w ∈ u_ws RX1 TX1 3, w ∈ ww_GW := by
  intro w hw
  obtain ⟨k, hk, rfl⟩ := List.mem_map.mp hw
  have hk := List.mem_range.mp hk
  have h1 : ∀ k, k < 3 → lw_tbl[([159, 161, 163] : List Nat).getD k 0]? = some (u_lay RX1 TX1 k) := by decide +kernel
  have h2 : ∀ k, k < 3 → goodWord (u_lay RX1 TX1 k) = true := by decide +kernel
  exact ww_gw (List.mem_of_getElem? (h1 k hk)) (h2 k hk)
theorem wt_2_0 {y : MethodName} : ww_fst y 2 0 (tyX1 0) := ⟨(RX1, TX1, 3), tyX1, rfl, tyX1_ok, nmX1, Or.inl rfl, tyX1_ok 0 (by decide)⟩
theorem wt_2_1 {y : MethodName} : ww_fst y 2 1 (tyX1 1) := ⟨(RX1, TX1, 3), tyX1, rfl, tyX1_ok, nmX1, Or.inl rfl, tyX1_ok 1 (by decide)⟩
theorem wt_2_2 {y : MethodName} : ww_fst y 2 2 (tyX1 2) := ⟨(RX1, TX1, 3), tyX1, rfl, tyX1_ok, nmX1, Or.inl rfl, tyX1_ok 2 (by decide)⟩
theorem wu_3 : ∀ w ∈ u_ws RX2 TX2 2, w ∈ ww_GW := by
  intro w hw
  obtain ⟨k, hk, rfl⟩ := List.mem_map.mp hw
  have hk := List.mem_range.mp hk
  have h1 : ∀ k, k < 2 → lw_tbl[([117, 119] : List Nat).getD k 0]? = some (u_lay RX2 TX2 k) := by decide +kernel
  have h2 : ∀ k, k < 2 → goodWord (u_lay RX2 TX2 k) = true := by decide +kernel
  exact ww_gw (List.mem_of_getElem? (h1 k hk)) (h2 k hk)
theorem wt_3_0 : ww_fst yX2_init 3 0 (tyX2 0) := ⟨(RX2, TX2, 2), tyX2, rfl, tyX2_ok, nmX2, Or.inr ⟨rfl, rfl, rfl⟩, tyX2_ok 0 (by decide)⟩
theorem wt_3_1 : ww_fst yX2_init 3 1 (tyX2 1) := ⟨(RX2, TX2, 2), tyX2, rfl, tyX2_ok, nmX2, Or.inr ⟨rfl, rfl, rfl⟩, tyX2_ok 1 (by decide)⟩
theorem wu_4 : ∀ w ∈ u_ws RX3 TX3 18, w ∈ ww_GW := by
  intro w hw
  obtain ⟨k, hk, rfl⟩ := List.mem_map.mp hw
  have hk := List.mem_range.mp hk
  have h1 : ∀ k, k < 18 → lw_tbl[([403, 405, 407, 409, 411, 413, 415, 417, 419, 421, 423, 425, 427, 429, 431, 433, 435, 437] : List Nat).getD k 0]? = some (u_lay RX3 TX3 k) := by decide +kernel
  have h2 : ∀ k, k < 18 → goodWord (u_lay RX3 TX3 k) = true := by decide +kernel
  exact ww_gw (List.mem_of_getElem? (h1 k hk)) (h2 k hk)
theorem wt_4_0 : ww_fst yX3_init 4 0 (tyX3 0) := ⟨(RX3, TX3, 18), tyX3, rfl, tyX3_ok, nmX3, Or.inr ⟨rfl, rfl, rfl⟩, tyX3_ok 0 (by decide)⟩
theorem wt_4_1 : ww_fst yX3_init 4 1 (tyX3 1) := ⟨(RX3, TX3, 18), tyX3, rfl, tyX3_ok, nmX3, Or.inr ⟨rfl, rfl, rfl⟩, tyX3_ok 1 (by decide)⟩
theorem wt_4_2 : ww_fst yX3_init 4 2 (tyX3 2) := ⟨(RX3, TX3, 18), tyX3, rfl, tyX3_ok, nmX3, Or.inr ⟨rfl, rfl, rfl⟩, tyX3_ok 2 (by decide)⟩
theorem wt_4_3 : ww_fst yX3_init 4 3 (tyX3 3) := ⟨(RX3, TX3, 18), tyX3, rfl, tyX3_ok, nmX3, Or.inr ⟨rfl, rfl, rfl⟩, tyX3_ok 3 (by decide)⟩
theorem wt_4_4 : ww_fst yX3_init 4 4 (tyX3 4) := ⟨(RX3, TX3, 18), tyX3, rfl, tyX3_ok, nmX3, Or.inr ⟨rfl, rfl, rfl⟩, tyX3_ok 4 (by decide)⟩
theorem wt_4_5 : ww_fst yX3_init 4 5 (tyX3 5) := ⟨(RX3, TX3, 18), tyX3, rfl, tyX3_ok, nmX3, Or.inr ⟨rfl, rfl, rfl⟩, tyX3_ok 5 (by decide)⟩
theorem wt_4_6 {y : MethodName} : ww_fst y 4 6 (tyX3 6) := ⟨(RX3, TX3, 18), tyX3, rfl, tyX3_ok, nmX3, Or.inl rfl, tyX3_ok 6 (by decide)⟩
theorem wt_4_7 {y : MethodName} : ww_fst y 4 7 (tyX3 7) := ⟨(RX3, TX3, 18), tyX3, rfl, tyX3_ok, nmX3, Or.inl rfl, tyX3_ok 7 (by decide)⟩
theorem wt_4_8 {y : MethodName} : ww_fst y 4 8 (tyX3 8) := ⟨(RX3, TX3, 18), tyX3, rfl, tyX3_ok, nmX3, Or.inl rfl, tyX3_ok 8 (by decide)⟩
theorem wt_4_9 {y : MethodName} : ww_fst y 4 9 (tyX3 9) := ⟨(RX3, TX3, 18), tyX3, rfl, tyX3_ok, nmX3, Or.inl rfl, tyX3_ok 9 (by decide)⟩
theorem wt_4_10 {y : MethodName} : ww_fst y 4 10 (tyX3 10) := ⟨(RX3, TX3, 18), tyX3, rfl, tyX3_ok, nmX3, Or.inl rfl, tyX3_ok 10 (by decide)⟩
theorem wt_4_11 {y : MethodName} : ww_fst y 4 11 (tyX3 11) := ⟨(RX3, TX3, 18), tyX3, rfl, tyX3_ok, nmX3, Or.inl rfl, tyX3_ok 11 (by decide)⟩
theorem wt_4_12 {y : MethodName} : ww_fst y 4 12 (tyX3 12) := ⟨(RX3, TX3, 18), tyX3, rfl, tyX3_ok, nmX3, Or.inl rfl, tyX3_ok 12 (by decide)⟩
theorem wt_4_13 {y : MethodName} : ww_fst y 4 13 (tyX3 13) := ⟨(RX3, TX3, 18), tyX3, rfl, tyX3_ok, nmX3, Or.inl rfl, tyX3_ok 13 (by decide)⟩
theorem wt_4_14 {y : MethodName} : ww_fst y 4 14 (tyX3 14) := ⟨(RX3, TX3, 18), tyX3, rfl, tyX3_ok, nmX3, Or.inl rfl, tyX3_ok 14 (by decide)⟩
theorem wt_4_15 {y : MethodName} : ww_fst y 4 15 (tyX3 15) := ⟨(RX3, TX3, 18), tyX3, rfl, tyX3_ok, nmX3, Or.inl rfl, tyX3_ok 15 (by decide)⟩
theorem wt_4_16 {y : MethodName} : ww_fst y 4 16 (tyX3 16) := ⟨(RX3, TX3, 18), tyX3, rfl, tyX3_ok, nmX3, Or.inl rfl, tyX3_ok 16 (by decide)⟩
theorem wt_4_17 {y : MethodName} : ww_fst y 4 17 (tyX3 17) := ⟨(RX3, TX3, 18), tyX3, rfl, tyX3_ok, nmX3, Or.inl rfl, tyX3_ok 17 (by decide)⟩
theorem wu_5 : ∀ w ∈ u_ws RX4 TX4 4, w ∈ ww_GW := by
  intro w hw
  obtain ⟨k, hk, rfl⟩ := List.mem_map.mp hw
  have hk := List.mem_range.mp hk
  have h1 : ∀ k, k < 4 → lw_tbl[([360, 362, 364, 366] : List Nat).getD k 0]? = some (u_lay RX4 TX4 k) := by decide +kernel
  have h2 : ∀ k, k < 4 → goodWord (u_lay RX4 TX4 k) = true := by decide +kernel
  exact ww_gw (List.mem_of_getElem? (h1 k hk)) (h2 k hk)
theorem wt_5_0 {y : MethodName} : ww_fst y 5 0 (tyX4 0) := ⟨(RX4, TX4, 4), tyX4, rfl, tyX4_ok, nmX4, Or.inl rfl, tyX4_ok 0 (by decide)⟩
theorem wt_5_1 {y : MethodName} : ww_fst y 5 1 (tyX4 1) := ⟨(RX4, TX4, 4), tyX4, rfl, tyX4_ok, nmX4, Or.inl rfl, tyX4_ok 1 (by decide)⟩
theorem wt_5_2 {y : MethodName} : ww_fst y 5 2 (tyX4 2) := ⟨(RX4, TX4, 4), tyX4, rfl, tyX4_ok, nmX4, Or.inl rfl, tyX4_ok 2 (by decide)⟩
theorem wt_5_3 {y : MethodName} : ww_fst y 5 3 (tyX4 3) := ⟨(RX4, TX4, 4), tyX4, rfl, tyX4_ok, nmX4, Or.inl rfl, tyX4_ok 3 (by decide)⟩
theorem wu_6 : ∀ w ∈ u_ws RX5 TX5 5, w ∈ ww_GW := by
  intro w hw
  obtain ⟨k, hk, rfl⟩ := List.mem_map.mp hw
  have hk := List.mem_range.mp hk
  have h1 : ∀ k, k < 5 → lw_tbl[([138, 140, 142, 144, 146] : List Nat).getD k 0]? = some (u_lay RX5 TX5 k) := by decide +kernel
  have h2 : ∀ k, k < 5 → goodWord (u_lay RX5 TX5 k) = true := by decide +kernel
  exact ww_gw (List.mem_of_getElem? (h1 k hk)) (h2 k hk)
theorem wt_6_0 : ww_fst yX5_init 6 0 (tyX5 0) := ⟨(RX5, TX5, 5), tyX5, rfl, tyX5_ok, nmX5, Or.inr ⟨rfl, rfl, rfl⟩, tyX5_ok 0 (by decide)⟩
theorem wt_6_1 : ww_fst yX5_init 6 1 (tyX5 1) := ⟨(RX5, TX5, 5), tyX5, rfl, tyX5_ok, nmX5, Or.inr ⟨rfl, rfl, rfl⟩, tyX5_ok 1 (by decide)⟩
theorem wt_6_2 : ww_fst yX5_init 6 2 (tyX5 2) := ⟨(RX5, TX5, 5), tyX5, rfl, tyX5_ok, nmX5, Or.inr ⟨rfl, rfl, rfl⟩, tyX5_ok 2 (by decide)⟩
theorem wt_6_3 {y : MethodName} : ww_fst y 6 3 (tyX5 3) := ⟨(RX5, TX5, 5), tyX5, rfl, tyX5_ok, nmX5, Or.inl rfl, tyX5_ok 3 (by decide)⟩
theorem wt_6_4 {y : MethodName} : ww_fst y 6 4 (tyX5 4) := ⟨(RX5, TX5, 5), tyX5, rfl, tyX5_ok, nmX5, Or.inl rfl, tyX5_ok 4 (by decide)⟩
theorem wu_7 : ∀ w ∈ u_ws RX6 TX6 4, w ∈ ww_GW := by
  intro w hw
  obtain ⟨k, hk, rfl⟩ := List.mem_map.mp hw
  have hk := List.mem_range.mp hk
  have h1 : ∀ k, k < 4 → lw_tbl[([170, 172, 174, 176] : List Nat).getD k 0]? = some (u_lay RX6 TX6 k) := by decide +kernel
  have h2 : ∀ k, k < 4 → goodWord (u_lay RX6 TX6 k) = true := by decide +kernel
  exact ww_gw (List.mem_of_getElem? (h1 k hk)) (h2 k hk)
theorem wt_7_0 : ww_fst yX6_init 7 0 (tyX6 0) := ⟨(RX6, TX6, 4), tyX6, rfl, tyX6_ok, nmX6, Or.inr ⟨rfl, rfl, rfl⟩, tyX6_ok 0 (by decide)⟩
theorem wt_7_1 : ww_fst yX6_init 7 1 (tyX6 1) := ⟨(RX6, TX6, 4), tyX6, rfl, tyX6_ok, nmX6, Or.inr ⟨rfl, rfl, rfl⟩, tyX6_ok 1 (by decide)⟩
theorem wt_7_2 : ww_fst yX6_init 7 2 (tyX6 2) := ⟨(RX6, TX6, 4), tyX6, rfl, tyX6_ok, nmX6, Or.inr ⟨rfl, rfl, rfl⟩, tyX6_ok 2 (by decide)⟩
theorem wt_7_3 : ww_fst yX6_init 7 3 (tyX6 3) := ⟨(RX6, TX6, 4), tyX6, rfl, tyX6_ok, nmX6, Or.inr ⟨rfl, rfl, rfl⟩, tyX6_ok 3 (by decide)⟩
theorem wu_8 : ∀ w ∈ u_ws RX7 TX7 33, w ∈ ww_GW := by
  intro w hw
  obtain ⟨k, hk, rfl⟩ := List.mem_map.mp hw
  have hk := List.mem_range.mp hk
  have h1 : ∀ k, k < 33 → lw_tbl[([998, 1000, 1002, 1004, 1006, 1008, 1010, 1012, 1014, 1016, 1018, 1020, 1022, 1024, 1026, 1028, 1030, 1032, 1034, 1036, 1038, 1040, 1042, 1044, 1046, 1048, 1050, 1052, 1054, 1056, 1058, 1060, 1062] : List Nat).getD k 0]? = some (u_lay RX7 TX7 k) := by decide +kernel
  have h2 : ∀ k, k < 33 → goodWord (u_lay RX7 TX7 k) = true := by decide +kernel
  exact ww_gw (List.mem_of_getElem? (h1 k hk)) (h2 k hk)
theorem wt_8_0 {y : MethodName} : ww_fst y 8 0 (tyX7 0) := ⟨(RX7, TX7, 33), tyX7, rfl, tyX7_ok, nmX7, Or.inl rfl, tyX7_ok 0 (by decide)⟩
theorem wt_8_1 {y : MethodName} : ww_fst y 8 1 (tyX7 1) := ⟨(RX7, TX7, 33), tyX7, rfl, tyX7_ok, nmX7, Or.inl rfl, tyX7_ok 1 (by decide)⟩
theorem wt_8_2 : ww_fst yX7_init 8 2 (tyX7 2) := ⟨(RX7, TX7, 33), tyX7, rfl, tyX7_ok, nmX7, Or.inr ⟨rfl, rfl, rfl⟩, tyX7_ok 2 (by decide)⟩
theorem wt_8_3 : ww_fst yX7_init 8 3 (tyX7 3) := ⟨(RX7, TX7, 33), tyX7, rfl, tyX7_ok, nmX7, Or.inr ⟨rfl, rfl, rfl⟩, tyX7_ok 3 (by decide)⟩
theorem wt_8_4 : ww_fst yX7_init 8 4 (tyX7 4) := ⟨(RX7, TX7, 33), tyX7, rfl, tyX7_ok, nmX7, Or.inr ⟨rfl, rfl, rfl⟩, tyX7_ok 4 (by decide)⟩
theorem wt_8_5 : ww_fst yX7_init 8 5 (tyX7 5) := ⟨(RX7, TX7, 33), tyX7, rfl, tyX7_ok, nmX7, Or.inr ⟨rfl, rfl, rfl⟩, tyX7_ok 5 (by decide)⟩
theorem wt_8_6 : ww_fst yX7_init 8 6 (tyX7 6) := ⟨(RX7, TX7, 33), tyX7, rfl, tyX7_ok, nmX7, Or.inr ⟨rfl, rfl, rfl⟩, tyX7_ok 6 (by decide)⟩
theorem wt_8_7 : ww_fst yX7_init 8 7 (tyX7 7) := ⟨(RX7, TX7, 33), tyX7, rfl, tyX7_ok, nmX7, Or.inr ⟨rfl, rfl, rfl⟩, tyX7_ok 7 (by decide)⟩
theorem wt_8_8 : ww_fst yX7_init 8 8 (tyX7 8) := ⟨(RX7, TX7, 33), tyX7, rfl, tyX7_ok, nmX7, Or.inr ⟨rfl, rfl, rfl⟩, tyX7_ok 8 (by decide)⟩
theorem wt_8_9 : ww_fst yX7_init 8 9 (tyX7 9) := ⟨(RX7, TX7, 33), tyX7, rfl, tyX7_ok, nmX7, Or.inr ⟨rfl, rfl, rfl⟩, tyX7_ok 9 (by decide)⟩
theorem wt_8_10 : ww_fst yX7_init 8 10 (tyX7 10) := ⟨(RX7, TX7, 33), tyX7, rfl, tyX7_ok, nmX7, Or.inr ⟨rfl, rfl, rfl⟩, tyX7_ok 10 (by decide)⟩
theorem wt_8_11 : ww_fst yX7_init 8 11 (tyX7 11) := ⟨(RX7, TX7, 33), tyX7, rfl, tyX7_ok, nmX7, Or.inr ⟨rfl, rfl, rfl⟩, tyX7_ok 11 (by decide)⟩
theorem wt_8_12 : ww_fst yX7_init 8 12 (tyX7 12) := ⟨(RX7, TX7, 33), tyX7, rfl, tyX7_ok, nmX7, Or.inr ⟨rfl, rfl, rfl⟩, tyX7_ok 12 (by decide)⟩
theorem wt_8_13 : ww_fst yX7_init 8 13 (tyX7 13) := ⟨(RX7, TX7, 33), tyX7, rfl, tyX7_ok, nmX7, Or.inr ⟨rfl, rfl, rfl⟩, tyX7_ok 13 (by decide)⟩
theorem wt_8_14 : ww_fst yX7_init 8 14 (tyX7 14) := ⟨(RX7, TX7, 33), tyX7, rfl, tyX7_ok, nmX7, Or.inr ⟨rfl, rfl, rfl⟩, tyX7_ok 14 (by decide)⟩
theorem wt_8_15 : ww_fst yX7_init 8 15 (tyX7 15) := ⟨(RX7, TX7, 33), tyX7, rfl, tyX7_ok, nmX7, Or.inr ⟨rfl, rfl, rfl⟩, tyX7_ok 15 (by decide)⟩
theorem wt_8_16 : ww_fst yX7_init 8 16 (tyX7 16) := ⟨(RX7, TX7, 33), tyX7, rfl, tyX7_ok, nmX7, Or.inr ⟨rfl, rfl, rfl⟩, tyX7_ok 16 (by decide)⟩
theorem wt_8_17 : ww_fst yX7_init 8 17 (tyX7 17) := ⟨(RX7, TX7, 33), tyX7, rfl, tyX7_ok, nmX7, Or.inr ⟨rfl, rfl, rfl⟩, tyX7_ok 17 (by decide)⟩
theorem wt_8_18 : ww_fst yX7_init 8 18 (tyX7 18) := ⟨(RX7, TX7, 33), tyX7, rfl, tyX7_ok, nmX7, Or.inr ⟨rfl, rfl, rfl⟩, tyX7_ok 18 (by decide)⟩
theorem wt_8_19 : ww_fst yX7_init 8 19 (tyX7 19) := ⟨(RX7, TX7, 33), tyX7, rfl, tyX7_ok, nmX7, Or.inr ⟨rfl, rfl, rfl⟩, tyX7_ok 19 (by decide)⟩
theorem wt_8_20 : ww_fst yX7_init 8 20 (tyX7 20) := ⟨(RX7, TX7, 33), tyX7, rfl, tyX7_ok, nmX7, Or.inr ⟨rfl, rfl, rfl⟩, tyX7_ok 20 (by decide)⟩
theorem wt_8_21 : ww_fst yX7_init 8 21 (tyX7 21) := ⟨(RX7, TX7, 33), tyX7, rfl, tyX7_ok, nmX7, Or.inr ⟨rfl, rfl, rfl⟩, tyX7_ok 21 (by decide)⟩
theorem wt_8_22 : ww_fst yX7_init 8 22 (tyX7 22) := ⟨(RX7, TX7, 33), tyX7, rfl, tyX7_ok, nmX7, Or.inr ⟨rfl, rfl, rfl⟩, tyX7_ok 22 (by decide)⟩
theorem wt_8_23 {y : MethodName} : ww_fst y 8 23 (tyX7 23) := ⟨(RX7, TX7, 33), tyX7, rfl, tyX7_ok, nmX7, Or.inl rfl, tyX7_ok 23 (by decide)⟩
theorem wt_8_24 : ww_fst yX7_init 8 24 (tyX7 24) := ⟨(RX7, TX7, 33), tyX7, rfl, tyX7_ok, nmX7, Or.inr ⟨rfl, rfl, rfl⟩, tyX7_ok 24 (by decide)⟩
theorem wt_8_25 : ww_fst yX7_init 8 25 (tyX7 25) := ⟨(RX7, TX7, 33), tyX7, rfl, tyX7_ok, nmX7, Or.inr ⟨rfl, rfl, rfl⟩, tyX7_ok 25 (by decide)⟩
theorem wt_8_26 {y : MethodName} : ww_fst y 8 26 (tyX7 26) := ⟨(RX7, TX7, 33), tyX7, rfl, tyX7_ok, nmX7, Or.inl rfl, tyX7_ok 26 (by decide)⟩
theorem wt_8_27 : ww_fst yX7_init 8 27 (tyX7 27) := ⟨(RX7, TX7, 33), tyX7, rfl, tyX7_ok, nmX7, Or.inr ⟨rfl, rfl, rfl⟩, tyX7_ok 27 (by decide)⟩
theorem wt_8_28 : ww_fst yX7_init 8 28 (tyX7 28) := ⟨(RX7, TX7, 33), tyX7, rfl, tyX7_ok, nmX7, Or.inr ⟨rfl, rfl, rfl⟩, tyX7_ok 28 (by decide)⟩
theorem wt_8_29 : ww_fst yX7_init 8 29 (tyX7 29) := ⟨(RX7, TX7, 33), tyX7, rfl, tyX7_ok, nmX7, Or.inr ⟨rfl, rfl, rfl⟩, tyX7_ok 29 (by decide)⟩
theorem wt_8_30 : ww_fst yX7_init 8 30 (tyX7 30) := ⟨(RX7, TX7, 33), tyX7, rfl, tyX7_ok, nmX7, Or.inr ⟨rfl, rfl, rfl⟩, tyX7_ok 30 (by decide)⟩
theorem wt_8_31 : ww_fst yX7_init 8 31 (tyX7 31) := ⟨(RX7, TX7, 33), tyX7, rfl, tyX7_ok, nmX7, Or.inr ⟨rfl, rfl, rfl⟩, tyX7_ok 31 (by decide)⟩
theorem wt_8_32 : ww_fst yX7_init 8 32 (tyX7 32) := ⟨(RX7, TX7, 33), tyX7, rfl, tyX7_ok, nmX7, Or.inr ⟨rfl, rfl, rfl⟩, tyX7_ok 32 (by decide)⟩
theorem wm_93 : Cond.fieldLink RJx4a65c 9 "java/util/ArrayList" "elementData" "[Ljava/lang/Object;" ∈ ww_GW := ww_gw (List.mem_of_getElem? (i := 93) (by decide +kernel)) rfl
theorem wf_Jx4a65c_9 : ww_fld RJx4a65c 9 0 1 := ⟨(RJx4a65c, TJx4a65c, 3), "java/util/ArrayList", rfl, by decide, rfl, wm_93, wu_0, Or.inl rfl⟩
theorem wm_94 : Cond.fieldLink RJx4a65c 48 "java/util/ArrayList" "size" "I" ∈ ww_GW := ww_gw (List.mem_of_getElem? (i := 94) (by decide +kernel)) rfl
theorem wf_Jx4a65c_48 : ww_fld RJx4a65c 48 0 2 := ⟨(RJx4a65c, TJx4a65c, 3), "java/util/ArrayList", rfl, by decide, rfl, wm_94, wu_0, Or.inl rfl⟩
theorem wm_95 : Cond.fieldLink RJxc12de 7 "java/util/AbstractList" "modCount" "I" ∈ ww_GW := ww_gw (List.mem_of_getElem? (i := 95) (by decide +kernel)) rfl
theorem wf_Jxc12de_7 : ww_fld RJxc12de 7 0 0 := ⟨(RJx4a65c, TJx4a65c, 3), "java/util/AbstractList", rfl, by decide, rfl, wm_95, wu_0, Or.inl rfl⟩
theorem wm_96 : Cond.fieldLink RJx4a65c 63 "java/util/ArrayList" "modCount" "I" ∈ ww_GW := ww_gw (List.mem_of_getElem? (i := 96) (by decide +kernel)) rfl
theorem wm_97 : Cond.sameField "java/util/ArrayList" "java/util/AbstractList" "modCount" "I" ∈ ww_GW := ww_gw (List.mem_of_getElem? (i := 97) (by decide +kernel)) rfl
theorem wf_Jx4a65c_63 : ww_fld RJx4a65c 63 0 0 := ⟨(RJx4a65c, TJx4a65c, 3), "java/util/ArrayList", rfl, by decide, rfl, wm_96, wu_0, Or.inr wm_97⟩
theorem wm_115 : Cond.fieldLink RX2 12 "WheelWorks$Log" "events" "Ljava/util/ArrayList;" ∈ ww_GW := ww_gw (List.mem_of_getElem? (i := 115) (by decide +kernel)) rfl
theorem wf_X2_12 : ww_fld RX2 12 3 0 := ⟨(RX2, TX2, 2), "WheelWorks$Log", rfl, by decide, rfl, wm_115, wu_3, Or.inl rfl⟩
theorem wm_116 : Cond.fieldLink RX2 18 "WheelWorks$Log" "hosts" "[I" ∈ ww_GW := ww_gw (List.mem_of_getElem? (i := 116) (by decide +kernel)) rfl
theorem wf_X2_18 : ww_fld RX2 18 3 1 := ⟨(RX2, TX2, 2), "WheelWorks$Log", rfl, by decide, rfl, wm_116, wu_3, Or.inl rfl⟩
theorem wm_131 : Cond.fieldLink RX5 12 "WheelWorks$Yard" "waiting" "Ljava/util/ArrayList;" ∈ ww_GW := ww_gw (List.mem_of_getElem? (i := 131) (by decide +kernel)) rfl
theorem wf_X5_12 : ww_fld RX5 12 6 0 := ⟨(RX5, TX5, 5), "WheelWorks$Yard", rfl, by decide, rfl, wm_131, wu_6, Or.inl rfl⟩
theorem wm_132 : Cond.fieldLink RX6 263 "WheelWorks$Yard" "waiting" "Ljava/util/ArrayList;" ∈ ww_GW := ww_gw (List.mem_of_getElem? (i := 132) (by decide +kernel)) rfl
theorem wf_X6_263 : ww_fld RX6 263 6 0 := ⟨(RX5, TX5, 5), "WheelWorks$Yard", rfl, by decide, rfl, wm_132, wu_6, Or.inl rfl⟩
theorem wm_133 : Cond.fieldLink RX5 18 "WheelWorks$Yard" "standing" "Ljava/util/ArrayList;" ∈ ww_GW := ww_gw (List.mem_of_getElem? (i := 133) (by decide +kernel)) rfl
theorem wf_X5_18 : ww_fld RX5 18 6 1 := ⟨(RX5, TX5, 5), "WheelWorks$Yard", rfl, by decide, rfl, wm_133, wu_6, Or.inl rfl⟩
theorem wm_134 : Cond.fieldLink RX6 280 "WheelWorks$Yard" "standing" "Ljava/util/ArrayList;" ∈ ww_GW := ww_gw (List.mem_of_getElem? (i := 134) (by decide +kernel)) rfl
theorem wf_X6_280 : ww_fld RX6 280 6 1 := ⟨(RX5, TX5, 5), "WheelWorks$Yard", rfl, by decide, rfl, wm_134, wu_6, Or.inl rfl⟩
theorem wm_135 : Cond.fieldLink RX5 21 "WheelWorks$Yard" "blocked" "[I" ∈ ww_GW := ww_gw (List.mem_of_getElem? (i := 135) (by decide +kernel)) rfl
theorem wf_X5_21 : ww_fld RX5 21 6 2 := ⟨(RX5, TX5, 5), "WheelWorks$Yard", rfl, by decide, rfl, wm_135, wu_6, Or.inl rfl⟩
theorem wm_136 : Cond.fieldLink RX5 42 "WheelWorks$Yard" "bestMoves" "I" ∈ ww_GW := ww_gw (List.mem_of_getElem? (i := 136) (by decide +kernel)) rfl
theorem wf_X5_42 : ww_fld RX5 42 6 3 := ⟨(RX5, TX5, 5), "WheelWorks$Yard", rfl, by decide, rfl, wm_136, wu_6, Or.inl rfl⟩
theorem wm_137 : Cond.fieldLink RX5 56 "WheelWorks$Yard" "bestPlan" "I" ∈ ww_GW := ww_gw (List.mem_of_getElem? (i := 137) (by decide +kernel)) rfl
theorem wf_X5_56 : ww_fld RX5 56 6 4 := ⟨(RX5, TX5, 5), "WheelWorks$Yard", rfl, by decide, rfl, wm_137, wu_6, Or.inl rfl⟩
theorem wm_154 : Cond.fieldLink RX6 73 "WheelWorks$KindLimits" "life" "I" ∈ ww_GW := ww_gw (List.mem_of_getElem? (i := 154) (by decide +kernel)) rfl
theorem wf_X6_73 : ww_fld RX6 73 2 0 := ⟨(RX1, TX1, 3), "WheelWorks$KindLimits", rfl, by decide, rfl, wm_154, wu_2, Or.inl rfl⟩
theorem wm_155 : Cond.fieldLink RX6 77 "WheelWorks$KindLimits" "interval" "I" ∈ ww_GW := ww_gw (List.mem_of_getElem? (i := 155) (by decide +kernel)) rfl
theorem wf_X6_77 : ww_fld RX6 77 2 1 := ⟨(RX1, TX1, 3), "WheelWorks$KindLimits", rfl, by decide, rfl, wm_155, wu_2, Or.inl rfl⟩
theorem wm_156 : Cond.fieldLink RX3 50 "WheelWorks$KindLimits" "interval" "I" ∈ ww_GW := ww_gw (List.mem_of_getElem? (i := 156) (by decide +kernel)) rfl
theorem wf_X3_50 : ww_fld RX3 50 2 1 := ⟨(RX1, TX1, 3), "WheelWorks$KindLimits", rfl, by decide, rfl, wm_156, wu_2, Or.inl rfl⟩
theorem wm_157 : Cond.fieldLink RX6 80 "WheelWorks$KindLimits" "window" "I" ∈ ww_GW := ww_gw (List.mem_of_getElem? (i := 157) (by decide +kernel)) rfl
theorem wf_X6_80 : ww_fld RX6 80 2 2 := ⟨(RX1, TX1, 3), "WheelWorks$KindLimits", rfl, by decide, rfl, wm_157, wu_2, Or.inl rfl⟩
theorem wm_158 : Cond.fieldLink RX3 58 "WheelWorks$KindLimits" "window" "I" ∈ ww_GW := ww_gw (List.mem_of_getElem? (i := 158) (by decide +kernel)) rfl
theorem wf_X3_58 : ww_fld RX3 58 2 2 := ⟨(RX1, TX1, 3), "WheelWorks$KindLimits", rfl, by decide, rfl, wm_158, wu_2, Or.inl rfl⟩
theorem wm_166 : Cond.fieldLink RX6 10 "WheelWorks" "parts" "Ljava/util/ArrayList;" ∈ ww_GW := ww_gw (List.mem_of_getElem? (i := 166) (by decide +kernel)) rfl
theorem wf_X6_10 : ww_fld RX6 10 7 0 := ⟨(RX6, TX6, 4), "WheelWorks", rfl, by decide, rfl, wm_166, wu_7, Or.inl rfl⟩
theorem wm_167 : Cond.fieldLink RX6 18 "WheelWorks" "kinds" "[LWheelWorks$KindLimits;" ∈ ww_GW := ww_gw (List.mem_of_getElem? (i := 167) (by decide +kernel)) rfl
theorem wf_X6_18 : ww_fld RX6 18 7 1 := ⟨(RX6, TX6, 4), "WheelWorks", rfl, by decide, rfl, wm_167, wu_7, Or.inl rfl⟩
theorem wm_168 : Cond.fieldLink RX6 25 "WheelWorks" "log" "LWheelWorks$Log;" ∈ ww_GW := ww_gw (List.mem_of_getElem? (i := 168) (by decide +kernel)) rfl
theorem wf_X6_25 : ww_fld RX6 25 7 2 := ⟨(RX6, TX6, 4), "WheelWorks", rfl, by decide, rfl, wm_168, wu_7, Or.inl rfl⟩
theorem wm_169 : Cond.fieldLink RX6 32 "WheelWorks" "yard" "LWheelWorks$Yard;" ∈ ww_GW := ww_gw (List.mem_of_getElem? (i := 169) (by decide +kernel)) rfl
theorem wf_X6_32 : ww_fld RX6 32 7 3 := ⟨(RX6, TX6, 4), "WheelWorks", rfl, by decide, rfl, wm_169, wu_7, Or.inl rfl⟩
theorem wm_353 : Cond.fieldLink RX4 9 "WheelWorks$Wheel" "diameter" "I" ∈ ww_GW := ww_gw (List.mem_of_getElem? (i := 353) (by decide +kernel)) rfl
theorem wf_X4_9 : ww_fld RX4 9 5 0 := ⟨(RX4, TX4, 4), "WheelWorks$Wheel", rfl, by decide, rfl, wm_353, wu_5, Or.inl rfl⟩
theorem wm_354 : Cond.fieldLink RX6 196 "WheelWorks$Wheel" "diameter" "I" ∈ ww_GW := ww_gw (List.mem_of_getElem? (i := 354) (by decide +kernel)) rfl
theorem wf_X6_196 : ww_fld RX6 196 5 0 := ⟨(RX4, TX4, 4), "WheelWorks$Wheel", rfl, by decide, rfl, wm_354, wu_5, Or.inl rfl⟩
theorem wm_355 : Cond.fieldLink RX4 15 "WheelWorks$Wheel" "flange" "I" ∈ ww_GW := ww_gw (List.mem_of_getElem? (i := 355) (by decide +kernel)) rfl
theorem wf_X4_15 : ww_fld RX4 15 5 1 := ⟨(RX4, TX4, 4), "WheelWorks$Wheel", rfl, by decide, rfl, wm_355, wu_5, Or.inl rfl⟩
theorem wm_356 : Cond.fieldLink RX6 213 "WheelWorks$Wheel" "flange" "I" ∈ ww_GW := ww_gw (List.mem_of_getElem? (i := 356) (by decide +kernel)) rfl
theorem wf_X6_213 : ww_fld RX6 213 5 1 := ⟨(RX4, TX4, 4), "WheelWorks$Wheel", rfl, by decide, rfl, wm_356, wu_5, Or.inl rfl⟩
theorem wm_357 : Cond.fieldLink RX4 18 "WheelWorks$Wheel" "told" "I" ∈ ww_GW := ww_gw (List.mem_of_getElem? (i := 357) (by decide +kernel)) rfl
theorem wf_X4_18 : ww_fld RX4 18 5 2 := ⟨(RX4, TX4, 4), "WheelWorks$Wheel", rfl, by decide, rfl, wm_357, wu_5, Or.inl rfl⟩
theorem wm_358 : Cond.fieldLink RX6 216 "WheelWorks$Wheel" "told" "I" ∈ ww_GW := ww_gw (List.mem_of_getElem? (i := 358) (by decide +kernel)) rfl
theorem wf_X6_216 : ww_fld RX6 216 5 2 := ⟨(RX4, TX4, 4), "WheelWorks$Wheel", rfl, by decide, rfl, wm_358, wu_5, Or.inl rfl⟩
theorem wm_359 : Cond.fieldLink RX4 21 "WheelWorks$Wheel" "rubbed" "I" ∈ ww_GW := ww_gw (List.mem_of_getElem? (i := 359) (by decide +kernel)) rfl
theorem wf_X4_21 : ww_fld RX4 21 5 3 := ⟨(RX4, TX4, 4), "WheelWorks$Wheel", rfl, by decide, rfl, wm_359, wu_5, Or.inl rfl⟩
theorem wm_369 : Cond.fieldLink RX3 15 "WheelWorks$Part" "number" "I" ∈ ww_GW := ww_gw (List.mem_of_getElem? (i := 369) (by decide +kernel)) rfl
theorem wf_X3_15 : ww_fld RX3 15 4 0 := ⟨(RX3, TX3, 18), "WheelWorks$Part", rfl, by decide, rfl, wm_369, wu_4, Or.inl rfl⟩
theorem wm_370 : Cond.fieldLink RX6 149 "WheelWorks$Part" "number" "I" ∈ ww_GW := ww_gw (List.mem_of_getElem? (i := 370) (by decide +kernel)) rfl
theorem wf_X6_149 : ww_fld RX6 149 4 0 := ⟨(RX3, TX3, 18), "WheelWorks$Part", rfl, by decide, rfl, wm_370, wu_4, Or.inl rfl⟩
theorem wm_371 : Cond.fieldLink RX5 76 "WheelWorks$Part" "number" "I" ∈ ww_GW := ww_gw (List.mem_of_getElem? (i := 371) (by decide +kernel)) rfl
theorem wf_X5_76 : ww_fld RX5 76 4 0 := ⟨(RX3, TX3, 18), "WheelWorks$Part", rfl, by decide, rfl, wm_371, wu_4, Or.inl rfl⟩
theorem wm_372 : Cond.fieldLink RX3 18 "WheelWorks$Part" "kind" "I" ∈ ww_GW := ww_gw (List.mem_of_getElem? (i := 372) (by decide +kernel)) rfl
theorem wf_X3_18 : ww_fld RX3 18 4 1 := ⟨(RX3, TX3, 18), "WheelWorks$Part", rfl, by decide, rfl, wm_372, wu_4, Or.inl rfl⟩
theorem wm_373 : Cond.fieldLink RX6 87 "WheelWorks$Part" "kind" "I" ∈ ww_GW := ww_gw (List.mem_of_getElem? (i := 373) (by decide +kernel)) rfl
theorem wf_X6_87 : ww_fld RX6 87 4 1 := ⟨(RX3, TX3, 18), "WheelWorks$Part", rfl, by decide, rfl, wm_373, wu_4, Or.inl rfl⟩
theorem wm_374 : Cond.fieldLink RX3 21 "WheelWorks$Part" "melt" "I" ∈ ww_GW := ww_gw (List.mem_of_getElem? (i := 374) (by decide +kernel)) rfl
theorem wf_X3_21 : ww_fld RX3 21 4 2 := ⟨(RX3, TX3, 18), "WheelWorks$Part", rfl, by decide, rfl, wm_374, wu_4, Or.inl rfl⟩
theorem wm_375 : Cond.fieldLink RX6 255 "WheelWorks$Part" "melt" "I" ∈ ww_GW := ww_gw (List.mem_of_getElem? (i := 375) (by decide +kernel)) rfl
theorem wf_X6_255 : ww_fld RX6 255 4 2 := ⟨(RX3, TX3, 18), "WheelWorks$Part", rfl, by decide, rfl, wm_375, wu_4, Or.inl rfl⟩
theorem wm_376 : Cond.fieldLink RX3 24 "WheelWorks$Part" "mod" "I" ∈ ww_GW := ww_gw (List.mem_of_getElem? (i := 376) (by decide +kernel)) rfl
theorem wf_X3_24 : ww_fld RX3 24 4 3 := ⟨(RX3, TX3, 18), "WheelWorks$Part", rfl, by decide, rfl, wm_376, wu_4, Or.inl rfl⟩
theorem wm_377 : Cond.fieldLink RX6 118 "WheelWorks$Part" "mod" "I" ∈ ww_GW := ww_gw (List.mem_of_getElem? (i := 377) (by decide +kernel)) rfl
theorem wf_X6_118 : ww_fld RX6 118 4 3 := ⟨(RX3, TX3, 18), "WheelWorks$Part", rfl, by decide, rfl, wm_377, wu_4, Or.inl rfl⟩
theorem wm_378 : Cond.fieldLink RX3 27 "WheelWorks$Part" "limits" "LWheelWorks$KindLimits;" ∈ ww_GW := ww_gw (List.mem_of_getElem? (i := 378) (by decide +kernel)) rfl
theorem wf_X3_27 : ww_fld RX3 27 4 4 := ⟨(RX3, TX3, 18), "WheelWorks$Part", rfl, by decide, rfl, wm_378, wu_4, Or.inl rfl⟩
theorem wm_379 : Cond.fieldLink RX6 232 "WheelWorks$Part" "limits" "LWheelWorks$KindLimits;" ∈ ww_GW := ww_gw (List.mem_of_getElem? (i := 379) (by decide +kernel)) rfl
theorem wf_X6_232 : ww_fld RX6 232 4 4 := ⟨(RX3, TX3, 18), "WheelWorks$Part", rfl, by decide, rfl, wm_379, wu_4, Or.inl rfl⟩
theorem wm_380 : Cond.fieldLink RX3 34 "WheelWorks$Part" "wheel" "LWheelWorks$Wheel;" ∈ ww_GW := ww_gw (List.mem_of_getElem? (i := 380) (by decide +kernel)) rfl
theorem wf_X3_34 : ww_fld RX3 34 4 5 := ⟨(RX3, TX3, 18), "WheelWorks$Part", rfl, by decide, rfl, wm_380, wu_4, Or.inl rfl⟩
theorem wm_381 : Cond.fieldLink RX6 345 "WheelWorks$Part" "wheel" "LWheelWorks$Wheel;" ∈ ww_GW := ww_gw (List.mem_of_getElem? (i := 381) (by decide +kernel)) rfl
theorem wf_X6_345 : ww_fld RX6 345 4 5 := ⟨(RX3, TX3, 18), "WheelWorks$Part", rfl, by decide, rfl, wm_381, wu_4, Or.inl rfl⟩
theorem wm_382 : Cond.fieldLink RX3 38 "WheelWorks$Part" "host" "LWheelWorks$Part;" ∈ ww_GW := ww_gw (List.mem_of_getElem? (i := 382) (by decide +kernel)) rfl
theorem wf_X3_38 : ww_fld RX3 38 4 6 := ⟨(RX3, TX3, 18), "WheelWorks$Part", rfl, by decide, rfl, wm_382, wu_4, Or.inl rfl⟩
theorem wm_383 : Cond.fieldLink RX6 129 "WheelWorks$Part" "host" "LWheelWorks$Part;" ∈ ww_GW := ww_gw (List.mem_of_getElem? (i := 383) (by decide +kernel)) rfl
theorem wf_X6_129 : ww_fld RX6 129 4 6 := ⟨(RX3, TX3, 18), "WheelWorks$Part", rfl, by decide, rfl, wm_383, wu_4, Or.inl rfl⟩
theorem wm_384 : Cond.fieldLink RX3 42 "WheelWorks$Part" "scrapped" "Z" ∈ ww_GW := ww_gw (List.mem_of_getElem? (i := 384) (by decide +kernel)) rfl
theorem wf_X3_42 : ww_fld RX3 42 4 7 := ⟨(RX3, TX3, 18), "WheelWorks$Part", rfl, by decide, rfl, wm_384, wu_4, Or.inl rfl⟩
theorem wm_385 : Cond.fieldLink RX6 106 "WheelWorks$Part" "scrapped" "Z" ∈ ww_GW := ww_gw (List.mem_of_getElem? (i := 385) (by decide +kernel)) rfl
theorem wf_X6_106 : ww_fld RX6 106 4 7 := ⟨(RX3, TX3, 18), "WheelWorks$Part", rfl, by decide, rfl, wm_385, wu_4, Or.inl rfl⟩
theorem wm_386 : Cond.fieldLink RX3 64 "WheelWorks$Part" "life" "I" ∈ ww_GW := ww_gw (List.mem_of_getElem? (i := 386) (by decide +kernel)) rfl
theorem wf_X3_64 : ww_fld RX3 64 4 8 := ⟨(RX3, TX3, 18), "WheelWorks$Part", rfl, by decide, rfl, wm_386, wu_4, Or.inl rfl⟩
theorem wm_387 : Cond.fieldLink RX6 242 "WheelWorks$Part" "life" "I" ∈ ww_GW := ww_gw (List.mem_of_getElem? (i := 387) (by decide +kernel)) rfl
theorem wf_X6_242 : ww_fld RX6 242 4 8 := ⟨(RX3, TX3, 18), "WheelWorks$Part", rfl, by decide, rfl, wm_387, wu_4, Or.inl rfl⟩
theorem wm_388 : Cond.fieldLink RX3 55 "WheelWorks$Part" "sinceExamination" "I" ∈ ww_GW := ww_gw (List.mem_of_getElem? (i := 388) (by decide +kernel)) rfl
theorem wf_X3_55 : ww_fld RX3 55 4 9 := ⟨(RX3, TX3, 18), "WheelWorks$Part", rfl, by decide, rfl, wm_388, wu_4, Or.inl rfl⟩
theorem wm_389 : Cond.fieldLink RX6 224 "WheelWorks$Part" "sinceExamination" "I" ∈ ww_GW := ww_gw (List.mem_of_getElem? (i := 389) (by decide +kernel)) rfl
theorem wf_X6_224 : ww_fld RX6 224 4 9 := ⟨(RX3, TX3, 18), "WheelWorks$Part", rfl, by decide, rfl, wm_389, wu_4, Or.inl rfl⟩
theorem wm_390 : Cond.fieldLink RX3 61 "WheelWorks$Part" "waived" "I" ∈ ww_GW := ww_gw (List.mem_of_getElem? (i := 390) (by decide +kernel)) rfl
theorem wf_X3_61 : ww_fld RX3 61 4 10 := ⟨(RX3, TX3, 18), "WheelWorks$Part", rfl, by decide, rfl, wm_390, wu_4, Or.inl rfl⟩
theorem wm_391 : Cond.fieldLink RX6 227 "WheelWorks$Part" "waived" "I" ∈ ww_GW := ww_gw (List.mem_of_getElem? (i := 391) (by decide +kernel)) rfl
theorem wf_X6_227 : ww_fld RX6 227 4 10 := ⟨(RX3, TX3, 18), "WheelWorks$Part", rfl, by decide, rfl, wm_391, wu_4, Or.inl rfl⟩
theorem wm_392 : Cond.fieldLink RX6 100 "WheelWorks$Part" "quarantined" "Z" ∈ ww_GW := ww_gw (List.mem_of_getElem? (i := 392) (by decide +kernel)) rfl
theorem wf_X6_100 : ww_fld RX6 100 4 11 := ⟨(RX3, TX3, 18), "WheelWorks$Part", rfl, by decide, rfl, wm_392, wu_4, Or.inl rfl⟩
theorem wm_393 : Cond.fieldLink RX6 248 "WheelWorks$Part" "recalled" "Z" ∈ ww_GW := ww_gw (List.mem_of_getElem? (i := 393) (by decide +kernel)) rfl
theorem wf_X6_248 : ww_fld RX6 248 4 12 := ⟨(RX3, TX3, 18), "WheelWorks$Part", rfl, by decide, rfl, wm_393, wu_4, Or.inl rfl⟩
theorem wm_394 : Cond.fieldLink RX6 181 "WheelWorks$Part" "flaw" "I" ∈ ww_GW := ww_gw (List.mem_of_getElem? (i := 394) (by decide +kernel)) rfl
theorem wf_X6_181 : ww_fld RX6 181 4 13 := ⟨(RX3, TX3, 18), "WheelWorks$Part", rfl, by decide, rfl, wm_394, wu_4, Or.inl rfl⟩
theorem wm_395 : Cond.fieldLink RX3 71 "WheelWorks$Part" "flaw" "I" ∈ ww_GW := ww_gw (List.mem_of_getElem? (i := 395) (by decide +kernel)) rfl
theorem wf_X3_71 : ww_fld RX3 71 4 13 := ⟨(RX3, TX3, 18), "WheelWorks$Part", rfl, by decide, rfl, wm_395, wu_4, Or.inl rfl⟩
theorem wm_396 : Cond.fieldLink RX3 74 "WheelWorks$Part" "lifeAtFlaw" "I" ∈ ww_GW := ww_gw (List.mem_of_getElem? (i := 396) (by decide +kernel)) rfl
theorem wf_X3_74 : ww_fld RX3 74 4 14 := ⟨(RX3, TX3, 18), "WheelWorks$Part", rfl, by decide, rfl, wm_396, wu_4, Or.inl rfl⟩
theorem wm_397 : Cond.fieldLink RX6 243 "WheelWorks$Part" "lifeAtFlaw" "I" ∈ ww_GW := ww_gw (List.mem_of_getElem? (i := 397) (by decide +kernel)) rfl
theorem wf_X6_243 : ww_fld RX6 243 4 14 := ⟨(RX3, TX3, 18), "WheelWorks$Part", rfl, by decide, rfl, wm_397, wu_4, Or.inl rfl⟩
theorem wm_398 : Cond.fieldLink RX6 141 "WheelWorks$Part" "released" "Z" ∈ ww_GW := ww_gw (List.mem_of_getElem? (i := 398) (by decide +kernel)) rfl
theorem wf_X6_141 : ww_fld RX6 141 4 15 := ⟨(RX3, TX3, 18), "WheelWorks$Part", rfl, by decide, rfl, wm_398, wu_4, Or.inl rfl⟩
theorem wm_399 : Cond.fieldLink RX3 9 "WheelWorks$Part" "road" "I" ∈ ww_GW := ww_gw (List.mem_of_getElem? (i := 399) (by decide +kernel)) rfl
theorem wf_X3_9 : ww_fld RX3 9 4 16 := ⟨(RX3, TX3, 18), "WheelWorks$Part", rfl, by decide, rfl, wm_399, wu_4, Or.inl rfl⟩
theorem wm_400 : Cond.fieldLink RX5 63 "WheelWorks$Part" "road" "I" ∈ ww_GW := ww_gw (List.mem_of_getElem? (i := 400) (by decide +kernel)) rfl
theorem wf_X5_63 : ww_fld RX5 63 4 16 := ⟨(RX3, TX3, 18), "WheelWorks$Part", rfl, by decide, rfl, wm_400, wu_4, Or.inl rfl⟩
theorem wm_401 : Cond.fieldLink RX5 35 "WheelWorks$Part" "time" "I" ∈ ww_GW := ww_gw (List.mem_of_getElem? (i := 401) (by decide +kernel)) rfl
theorem wf_X5_35 : ww_fld RX5 35 4 17 := ⟨(RX3, TX3, 18), "WheelWorks$Part", rfl, by decide, rfl, wm_401, wu_4, Or.inl rfl⟩
theorem wm_402 : Cond.fieldLink RX6 274 "WheelWorks$Part" "time" "I" ∈ ww_GW := ww_gw (List.mem_of_getElem? (i := 402) (by decide +kernel)) rfl
theorem wf_X6_274 : ww_fld RX6 274 4 17 := ⟨(RX3, TX3, 18), "WheelWorks$Part", rfl, by decide, rfl, wm_402, wu_4, Or.inl rfl⟩
theorem wm_571 : Cond.fieldLink RX0 7 "WheelWorks$Event" "part" "I" ∈ ww_GW := ww_gw (List.mem_of_getElem? (i := 571) (by decide +kernel)) rfl
theorem wf_X0_7 : ww_fld RX0 7 1 0 := ⟨(RX0, TX0, 3), "WheelWorks$Event", rfl, by decide, rfl, wm_571, wu_1, Or.inl rfl⟩
theorem wm_572 : Cond.fieldLink RX2 46 "WheelWorks$Event" "part" "I" ∈ ww_GW := ww_gw (List.mem_of_getElem? (i := 572) (by decide +kernel)) rfl
theorem wf_X2_46 : ww_fld RX2 46 1 0 := ⟨(RX0, TX0, 3), "WheelWorks$Event", rfl, by decide, rfl, wm_572, wu_1, Or.inl rfl⟩
theorem wm_573 : Cond.fieldLink RX0 13 "WheelWorks$Event" "to" "I" ∈ ww_GW := ww_gw (List.mem_of_getElem? (i := 573) (by decide +kernel)) rfl
theorem wf_X0_13 : ww_fld RX0 13 1 1 := ⟨(RX0, TX0, 3), "WheelWorks$Event", rfl, by decide, rfl, wm_573, wu_1, Or.inl rfl⟩
theorem wm_574 : Cond.fieldLink RX2 61 "WheelWorks$Event" "to" "I" ∈ ww_GW := ww_gw (List.mem_of_getElem? (i := 574) (by decide +kernel)) rfl
theorem wf_X2_61 : ww_fld RX2 61 1 1 := ⟨(RX0, TX0, 3), "WheelWorks$Event", rfl, by decide, rfl, wm_574, wu_1, Or.inl rfl⟩
theorem wm_575 : Cond.fieldLink RX6 310 "WheelWorks$Event" "to" "I" ∈ ww_GW := ww_gw (List.mem_of_getElem? (i := 575) (by decide +kernel)) rfl
theorem wf_X6_310 : ww_fld RX6 310 1 1 := ⟨(RX0, TX0, 3), "WheelWorks$Event", rfl, by decide, rfl, wm_575, wu_1, Or.inl rfl⟩
theorem wm_576 : Cond.fieldLink RX0 16 "WheelWorks$Event" "kilometres" "I" ∈ ww_GW := ww_gw (List.mem_of_getElem? (i := 576) (by decide +kernel)) rfl
theorem wf_X0_16 : ww_fld RX0 16 1 2 := ⟨(RX0, TX0, 3), "WheelWorks$Event", rfl, by decide, rfl, wm_576, wu_1, Or.inl rfl⟩
theorem wm_577 : Cond.fieldLink RX2 50 "WheelWorks$Event" "kilometres" "I" ∈ ww_GW := ww_gw (List.mem_of_getElem? (i := 577) (by decide +kernel)) rfl
theorem wf_X2_50 : ww_fld RX2 50 1 2 := ⟨(RX0, TX0, 3), "WheelWorks$Event", rfl, by decide, rfl, wm_577, wu_1, Or.inl rfl⟩
theorem wm_965 : Cond.fieldLink RX7 98 "WheelWorksModel" "thrown" "I" ∈ ww_GW := ww_gw (List.mem_of_getElem? (i := 965) (by decide +kernel)) rfl
theorem wf_X7_98 : ww_fld RX7 98 8 0 := ⟨(RX7, TX7, 33), "WheelWorksModel", rfl, by decide, rfl, wm_965, wu_8, Or.inl rfl⟩
theorem wm_966 : Cond.fieldLink RX7 102 "WheelWorksModel" "many" "I" ∈ ww_GW := ww_gw (List.mem_of_getElem? (i := 966) (by decide +kernel)) rfl
theorem wf_X7_102 : ww_fld RX7 102 8 1 := ⟨(RX7, TX7, 33), "WheelWorksModel", rfl, by decide, rfl, wm_966, wu_8, Or.inl rfl⟩
theorem wm_967 : Cond.fieldLink RX7 7 "WheelWorksModel" "kinds" "[I" ∈ ww_GW := ww_gw (List.mem_of_getElem? (i := 967) (by decide +kernel)) rfl
theorem wf_X7_7 : ww_fld RX7 7 8 2 := ⟨(RX7, TX7, 33), "WheelWorksModel", rfl, by decide, rfl, wm_967, wu_8, Or.inl rfl⟩
theorem wm_968 : Cond.fieldLink RX7 13 "WheelWorksModel" "melts" "[I" ∈ ww_GW := ww_gw (List.mem_of_getElem? (i := 968) (by decide +kernel)) rfl
theorem wf_X7_13 : ww_fld RX7 13 8 3 := ⟨(RX7, TX7, 33), "WheelWorksModel", rfl, by decide, rfl, wm_968, wu_8, Or.inl rfl⟩
theorem wm_969 : Cond.fieldLink RX7 16 "WheelWorksModel" "mods" "[I" ∈ ww_GW := ww_gw (List.mem_of_getElem? (i := 969) (by decide +kernel)) rfl
theorem wf_X7_16 : ww_fld RX7 16 8 4 := ⟨(RX7, TX7, 33), "WheelWorksModel", rfl, by decide, rfl, wm_969, wu_8, Or.inl rfl⟩
theorem wm_970 : Cond.fieldLink RX7 19 "WheelWorksModel" "hosts" "[I" ∈ ww_GW := ww_gw (List.mem_of_getElem? (i := 970) (by decide +kernel)) rfl
theorem wf_X7_19 : ww_fld RX7 19 8 5 := ⟨(RX7, TX7, 33), "WheelWorksModel", rfl, by decide, rfl, wm_970, wu_8, Or.inl rfl⟩
theorem wm_971 : Cond.fieldLink RX7 22 "WheelWorksModel" "lives" "[I" ∈ ww_GW := ww_gw (List.mem_of_getElem? (i := 971) (by decide +kernel)) rfl
theorem wf_X7_22 : ww_fld RX7 22 8 6 := ⟨(RX7, TX7, 33), "WheelWorksModel", rfl, by decide, rfl, wm_971, wu_8, Or.inl rfl⟩
theorem wm_972 : Cond.fieldLink RX7 25 "WheelWorksModel" "since" "[I" ∈ ww_GW := ww_gw (List.mem_of_getElem? (i := 972) (by decide +kernel)) rfl
theorem wf_X7_25 : ww_fld RX7 25 8 7 := ⟨(RX7, TX7, 33), "WheelWorksModel", rfl, by decide, rfl, wm_972, wu_8, Or.inl rfl⟩
theorem wm_973 : Cond.fieldLink RX7 28 "WheelWorksModel" "waived" "[I" ∈ ww_GW := ww_gw (List.mem_of_getElem? (i := 973) (by decide +kernel)) rfl
theorem wf_X7_28 : ww_fld RX7 28 8 8 := ⟨(RX7, TX7, 33), "WheelWorksModel", rfl, by decide, rfl, wm_973, wu_8, Or.inl rfl⟩
theorem wm_974 : Cond.fieldLink RX7 31 "WheelWorksModel" "isHeld" "[Z" ∈ ww_GW := ww_gw (List.mem_of_getElem? (i := 974) (by decide +kernel)) rfl
theorem wf_X7_31 : ww_fld RX7 31 8 9 := ⟨(RX7, TX7, 33), "WheelWorksModel", rfl, by decide, rfl, wm_974, wu_8, Or.inl rfl⟩
theorem wm_975 : Cond.fieldLink RX7 35 "WheelWorksModel" "isRecalled" "[Z" ∈ ww_GW := ww_gw (List.mem_of_getElem? (i := 975) (by decide +kernel)) rfl
theorem wf_X7_35 : ww_fld RX7 35 8 10 := ⟨(RX7, TX7, 33), "WheelWorksModel", rfl, by decide, rfl, wm_975, wu_8, Or.inl rfl⟩
theorem wm_976 : Cond.fieldLink RX7 38 "WheelWorksModel" "wasReleased" "[Z" ∈ ww_GW := ww_gw (List.mem_of_getElem? (i := 976) (by decide +kernel)) rfl
theorem wf_X7_38 : ww_fld RX7 38 8 11 := ⟨(RX7, TX7, 33), "WheelWorksModel", rfl, by decide, rfl, wm_976, wu_8, Or.inl rfl⟩
theorem wm_977 : Cond.fieldLink RX7 41 "WheelWorksModel" "standsOn" "[Z" ∈ ww_GW := ww_gw (List.mem_of_getElem? (i := 977) (by decide +kernel)) rfl
theorem wf_X7_41 : ww_fld RX7 41 8 12 := ⟨(RX7, TX7, 33), "WheelWorksModel", rfl, by decide, rfl, wm_977, wu_8, Or.inl rfl⟩
theorem wm_978 : Cond.fieldLink RX7 44 "WheelWorksModel" "diameters" "[I" ∈ ww_GW := ww_gw (List.mem_of_getElem? (i := 978) (by decide +kernel)) rfl
theorem wf_X7_44 : ww_fld RX7 44 8 13 := ⟨(RX7, TX7, 33), "WheelWorksModel", rfl, by decide, rfl, wm_978, wu_8, Or.inl rfl⟩
theorem wm_979 : Cond.fieldLink RX7 47 "WheelWorksModel" "flanges" "[I" ∈ ww_GW := ww_gw (List.mem_of_getElem? (i := 979) (by decide +kernel)) rfl
theorem wf_X7_47 : ww_fld RX7 47 8 14 := ⟨(RX7, TX7, 33), "WheelWorksModel", rfl, by decide, rfl, wm_979, wu_8, Or.inl rfl⟩
theorem wm_980 : Cond.fieldLink RX7 50 "WheelWorksModel" "rubbed" "[I" ∈ ww_GW := ww_gw (List.mem_of_getElem? (i := 980) (by decide +kernel)) rfl
theorem wf_X7_50 : ww_fld RX7 50 8 15 := ⟨(RX7, TX7, 33), "WheelWorksModel", rfl, by decide, rfl, wm_980, wu_8, Or.inl rfl⟩
theorem wm_981 : Cond.fieldLink RX7 53 "WheelWorksModel" "told" "[I" ∈ ww_GW := ww_gw (List.mem_of_getElem? (i := 981) (by decide +kernel)) rfl
theorem wf_X7_53 : ww_fld RX7 53 8 16 := ⟨(RX7, TX7, 33), "WheelWorksModel", rfl, by decide, rfl, wm_981, wu_8, Or.inl rfl⟩
theorem wm_982 : Cond.fieldLink RX7 56 "WheelWorksModel" "wasTold" "[Z" ∈ ww_GW := ww_gw (List.mem_of_getElem? (i := 982) (by decide +kernel)) rfl
theorem wf_X7_56 : ww_fld RX7 56 8 17 := ⟨(RX7, TX7, 33), "WheelWorksModel", rfl, by decide, rfl, wm_982, wu_8, Or.inl rfl⟩
theorem wm_983 : Cond.fieldLink RX7 59 "WheelWorksModel" "flaws" "[I" ∈ ww_GW := ww_gw (List.mem_of_getElem? (i := 983) (by decide +kernel)) rfl
theorem wf_X7_59 : ww_fld RX7 59 8 18 := ⟨(RX7, TX7, 33), "WheelWorksModel", rfl, by decide, rfl, wm_983, wu_8, Or.inl rfl⟩
theorem wm_984 : Cond.fieldLink RX7 62 "WheelWorksModel" "flawAt" "[I" ∈ ww_GW := ww_gw (List.mem_of_getElem? (i := 984) (by decide +kernel)) rfl
theorem wf_X7_62 : ww_fld RX7 62 8 19 := ⟨(RX7, TX7, 33), "WheelWorksModel", rfl, by decide, rfl, wm_984, wu_8, Or.inl rfl⟩
theorem wm_985 : Cond.fieldLink RX7 65 "WheelWorksModel" "lifeOf" "[I" ∈ ww_GW := ww_gw (List.mem_of_getElem? (i := 985) (by decide +kernel)) rfl
theorem wf_X7_65 : ww_fld RX7 65 8 20 := ⟨(RX7, TX7, 33), "WheelWorksModel", rfl, by decide, rfl, wm_985, wu_8, Or.inl rfl⟩
theorem wm_986 : Cond.fieldLink RX7 68 "WheelWorksModel" "intervals" "[I" ∈ ww_GW := ww_gw (List.mem_of_getElem? (i := 986) (by decide +kernel)) rfl
theorem wf_X7_68 : ww_fld RX7 68 8 21 := ⟨(RX7, TX7, 33), "WheelWorksModel", rfl, by decide, rfl, wm_986, wu_8, Or.inl rfl⟩
theorem wm_987 : Cond.fieldLink RX7 71 "WheelWorksModel" "windows" "[I" ∈ ww_GW := ww_gw (List.mem_of_getElem? (i := 987) (by decide +kernel)) rfl
theorem wf_X7_71 : ww_fld RX7 71 8 22 := ⟨(RX7, TX7, 33), "WheelWorksModel", rfl, by decide, rfl, wm_987, wu_8, Or.inl rfl⟩
theorem wm_988 : Cond.fieldLink RX7 118 "WheelWorksModel" "moveMany" "I" ∈ ww_GW := ww_gw (List.mem_of_getElem? (i := 988) (by decide +kernel)) rfl
theorem wf_X7_118 : ww_fld RX7 118 8 23 := ⟨(RX7, TX7, 33), "WheelWorksModel", rfl, by decide, rfl, wm_988, wu_8, Or.inl rfl⟩
theorem wm_989 : Cond.fieldLink RX7 74 "WheelWorksModel" "moved" "[I" ∈ ww_GW := ww_gw (List.mem_of_getElem? (i := 989) (by decide +kernel)) rfl
theorem wf_X7_74 : ww_fld RX7 74 8 24 := ⟨(RX7, TX7, 33), "WheelWorksModel", rfl, by decide, rfl, wm_989, wu_8, Or.inl rfl⟩
theorem wm_990 : Cond.fieldLink RX7 77 "WheelWorksModel" "movedTo" "[I" ∈ ww_GW := ww_gw (List.mem_of_getElem? (i := 990) (by decide +kernel)) rfl
theorem wf_X7_77 : ww_fld RX7 77 8 25 := ⟨(RX7, TX7, 33), "WheelWorksModel", rfl, by decide, rfl, wm_990, wu_8, Or.inl rfl⟩
theorem wm_991 : Cond.fieldLink RX7 139 "WheelWorksModel" "waitMany" "I" ∈ ww_GW := ww_gw (List.mem_of_getElem? (i := 991) (by decide +kernel)) rfl
theorem wf_X7_139 : ww_fld RX7 139 8 26 := ⟨(RX7, TX7, 33), "WheelWorksModel", rfl, by decide, rfl, wm_991, wu_8, Or.inl rfl⟩
theorem wm_992 : Cond.fieldLink RX7 80 "WheelWorksModel" "waiting" "[I" ∈ ww_GW := ww_gw (List.mem_of_getElem? (i := 992) (by decide +kernel)) rfl
theorem wf_X7_80 : ww_fld RX7 80 8 27 := ⟨(RX7, TX7, 33), "WheelWorksModel", rfl, by decide, rfl, wm_992, wu_8, Or.inl rfl⟩
theorem wm_993 : Cond.fieldLink RX7 83 "WheelWorksModel" "times" "[I" ∈ ww_GW := ww_gw (List.mem_of_getElem? (i := 993) (by decide +kernel)) rfl
theorem wf_X7_83 : ww_fld RX7 83 8 28 := ⟨(RX7, TX7, 33), "WheelWorksModel", rfl, by decide, rfl, wm_993, wu_8, Or.inl rfl⟩
theorem wm_994 : Cond.fieldLink RX7 86 "WheelWorksModel" "best" "[I" ∈ ww_GW := ww_gw (List.mem_of_getElem? (i := 994) (by decide +kernel)) rfl
theorem wf_X7_86 : ww_fld RX7 86 8 29 := ⟨(RX7, TX7, 33), "WheelWorksModel", rfl, by decide, rfl, wm_994, wu_8, Or.inl rfl⟩
theorem wm_995 : Cond.fieldLink RX7 89 "WheelWorksModel" "tried" "[I" ∈ ww_GW := ww_gw (List.mem_of_getElem? (i := 995) (by decide +kernel)) rfl
theorem wf_X7_89 : ww_fld RX7 89 8 30 := ⟨(RX7, TX7, 33), "WheelWorksModel", rfl, by decide, rfl, wm_995, wu_8, Or.inl rfl⟩
theorem wm_996 : Cond.fieldLink RX7 92 "WheelWorksModel" "roadMany" "[I" ∈ ww_GW := ww_gw (List.mem_of_getElem? (i := 996) (by decide +kernel)) rfl
theorem wf_X7_92 : ww_fld RX7 92 8 31 := ⟨(RX7, TX7, 33), "WheelWorksModel", rfl, by decide, rfl, wm_996, wu_8, Or.inl rfl⟩
theorem wm_997 : Cond.fieldLink RX7 95 "WheelWorksModel" "roads" "[I" ∈ ww_GW := ww_gw (List.mem_of_getElem? (i := 997) (by decide +kernel)) rfl
theorem wf_X7_95 : ww_fld RX7 95 8 32 := ⟨(RX7, TX7, 33), "WheelWorksModel", rfl, by decide, rfl, wm_997, wu_8, Or.inl rfl⟩
theorem wm_75 : ww_hd wy_X6_init ∈ ww_GW := ww_gw (List.mem_of_getElem? (i := 75) (by decide +kernel)) rfl
theorem wm_47 : Cond.initialized RX6 ∈ ww_GW := ww_gw (List.mem_of_getElem? (i := 47) (by decide +kernel)) rfl
theorem wc_X6_init : ww_cal wy_X6_init 0 := ⟨wm_75, wm_47, ⟨by decide +kernel, by decide +kernel⟩, by decide +kernel, by decide⟩
theorem wm_73 : Cond.methodLink RL 111 yX6_init ∈ ww_GW := ww_gw (List.mem_of_getElem? (i := 73) (by decide +kernel)) rfl
theorem wm_74 : Cond.instanceMethod yX6_init ∈ ww_GW := ww_gw (List.mem_of_getElem? (i := 74) (by decide +kernel)) rfl
theorem wk_L_111 : ww_ini RL 111 wy_X6_init 0 := ⟨wc_X6_init, rfl, wm_73, wm_74, rfl⟩
theorem wm_83 : ww_hd wy_Jx4a65c_init_da8c8 ∈ ww_GW := ww_gw (List.mem_of_getElem? (i := 83) (by decide +kernel)) rfl
theorem wm_50 : Cond.initialized RJx4a65c ∈ ww_GW := ww_gw (List.mem_of_getElem? (i := 50) (by decide +kernel)) rfl
theorem wc_Jx4a65c_init_da8c8 : ww_cal wy_Jx4a65c_init_da8c8 0 := ⟨wm_83, wm_50, ⟨by decide +kernel, by decide +kernel⟩, by decide +kernel, by decide⟩
theorem wm_81 : Cond.methodLink RX6 9 yJx4a65c_init_da8c8 ∈ ww_GW := ww_gw (List.mem_of_getElem? (i := 81) (by decide +kernel)) rfl
theorem wm_82 : Cond.instanceMethod yJx4a65c_init_da8c8 ∈ ww_GW := ww_gw (List.mem_of_getElem? (i := 82) (by decide +kernel)) rfl
theorem wk_X6_9 : ww_ini RX6 9 wy_Jx4a65c_init_da8c8 0 := ⟨wc_Jx4a65c_init_da8c8, rfl, wm_81, wm_82, rfl⟩
theorem wm_86 : ww_hd wy_Jxc12de_init_da8c8 ∈ ww_GW := ww_gw (List.mem_of_getElem? (i := 86) (by decide +kernel)) rfl
theorem wm_49 : Cond.initialized RJxc12de ∈ ww_GW := ww_gw (List.mem_of_getElem? (i := 49) (by decide +kernel)) rfl
theorem wc_Jxc12de_init_da8c8 : ww_cal wy_Jxc12de_init_da8c8 0 := ⟨wm_86, wm_49, ⟨by decide +kernel, by decide +kernel⟩, by decide +kernel, by decide⟩
theorem wm_84 : Cond.methodLink RJx4a65c 1 yJxc12de_init_da8c8 ∈ ww_GW := ww_gw (List.mem_of_getElem? (i := 84) (by decide +kernel)) rfl
theorem wm_85 : Cond.instanceMethod yJxc12de_init_da8c8 ∈ ww_GW := ww_gw (List.mem_of_getElem? (i := 85) (by decide +kernel)) rfl
theorem wk_Jx4a65c_1 : ww_ini RJx4a65c 1 wy_Jxc12de_init_da8c8 0 := ⟨wc_Jxc12de_init_da8c8, rfl, wm_84, wm_85, rfl⟩
theorem wm_89 : ww_hd wy_Jxa1e45_init_da8c8 ∈ ww_GW := ww_gw (List.mem_of_getElem? (i := 89) (by decide +kernel)) rfl
theorem wm_48 : Cond.initialized RJxa1e45 ∈ ww_GW := ww_gw (List.mem_of_getElem? (i := 48) (by decide +kernel)) rfl
theorem wc_Jxa1e45_init_da8c8 : ww_cal wy_Jxa1e45_init_da8c8 0 := ⟨wm_89, wm_48, ⟨by decide +kernel, by decide +kernel⟩, by decide +kernel, by decide⟩
theorem wm_87 : Cond.methodLink RJxc12de 1 yJxa1e45_init_da8c8 ∈ ww_GW := ww_gw (List.mem_of_getElem? (i := 87) (by decide +kernel)) rfl
theorem wm_88 : Cond.instanceMethod yJxa1e45_init_da8c8 ∈ ww_GW := ww_gw (List.mem_of_getElem? (i := 88) (by decide +kernel)) rfl
theorem wk_Jxc12de_1 : ww_ini RJxc12de 1 wy_Jxa1e45_init_da8c8 0 := ⟨wc_Jxa1e45_init_da8c8, rfl, wm_87, wm_88, rfl⟩
theorem wm_111 : ww_hd wy_X2_init ∈ ww_GW := ww_gw (List.mem_of_getElem? (i := 111) (by decide +kernel)) rfl
theorem wm_51 : Cond.initialized RX2 ∈ ww_GW := ww_gw (List.mem_of_getElem? (i := 51) (by decide +kernel)) rfl
theorem wc_X2_init : ww_cal wy_X2_init 0 := ⟨wm_111, wm_51, ⟨by decide +kernel, by decide +kernel⟩, by decide +kernel, by decide⟩
theorem wm_110 : Cond.instanceMethod yX2_init ∈ ww_GW := ww_gw (List.mem_of_getElem? (i := 110) (by decide +kernel)) rfl
theorem wk_X6_24 : ww_inn RX6 24 wy_X2_init 0 := ⟨wc_X2_init, rfl, ⟨"WheelWorks", by decide +kernel⟩, wm_110, rfl⟩
theorem wm_114 : Cond.methodLink RX2 11 yJx4a65c_init_da8c8 ∈ ww_GW := ww_gw (List.mem_of_getElem? (i := 114) (by decide +kernel)) rfl
theorem wk_X2_11 : ww_ini RX2 11 wy_Jx4a65c_init_da8c8 0 := ⟨wc_Jx4a65c_init_da8c8, rfl, wm_114, wm_82, rfl⟩
theorem wm_127 : ww_hd wy_X5_init ∈ ww_GW := ww_gw (List.mem_of_getElem? (i := 127) (by decide +kernel)) rfl
theorem wm_52 : Cond.initialized RX5 ∈ ww_GW := ww_gw (List.mem_of_getElem? (i := 52) (by decide +kernel)) rfl
theorem wc_X5_init : ww_cal wy_X5_init 0 := ⟨wm_127, wm_52, ⟨by decide +kernel, by decide +kernel⟩, by decide +kernel, by decide⟩
theorem wm_126 : Cond.instanceMethod yX5_init ∈ ww_GW := ww_gw (List.mem_of_getElem? (i := 126) (by decide +kernel)) rfl
theorem wk_X6_31 : ww_inn RX6 31 wy_X5_init 0 := ⟨wc_X5_init, rfl, ⟨"WheelWorks", by decide +kernel⟩, wm_126, rfl⟩
theorem wm_130 : Cond.methodLink RX5 11 yJx4a65c_init_da8c8 ∈ ww_GW := ww_gw (List.mem_of_getElem? (i := 130) (by decide +kernel)) rfl
theorem wk_X5_11 : ww_ini RX5 11 wy_Jx4a65c_init_da8c8 0 := ⟨wc_Jx4a65c_init_da8c8, rfl, wm_130, wm_82, rfl⟩
theorem wm_152 : ww_hd wy_X1_init ∈ ww_GW := ww_gw (List.mem_of_getElem? (i := 152) (by decide +kernel)) rfl
theorem wm_53 : Cond.initialized RX1 ∈ ww_GW := ww_gw (List.mem_of_getElem? (i := 53) (by decide +kernel)) rfl
theorem wc_X1_init : ww_cal wy_X1_init 0 := ⟨wm_152, wm_53, ⟨by decide +kernel, by decide +kernel⟩, by decide +kernel, by decide⟩
theorem wm_151 : Cond.instanceMethod yX1_init ∈ ww_GW := ww_gw (List.mem_of_getElem? (i := 151) (by decide +kernel)) rfl
theorem wk_X6_36 : ww_inn RX6 36 wy_X1_init 0 := ⟨wc_X1_init, rfl, ⟨"WheelWorks", by decide +kernel⟩, wm_151, rfl⟩
theorem wm_182 : ww_hd wy_X6_plan ∈ ww_GW := ww_gw (List.mem_of_getElem? (i := 182) (by decide +kernel)) rfl
theorem wc_X6_plan : ww_cal wy_X6_plan 0 := ⟨wm_182, wm_47, ⟨by decide +kernel, by decide +kernel⟩, by decide +kernel, by decide⟩
theorem wm_179 : Cond.methodLink RL 212 yX6_plan ∈ ww_GW := ww_gw (List.mem_of_getElem? (i := 179) (by decide +kernel)) rfl
theorem wm_180 : Cond.instanceMethod yX6_plan ∈ ww_GW := ww_gw (List.mem_of_getElem? (i := 180) (by decide +kernel)) rfl
theorem wm_181 : Cond.selects RX6 yX6_plan yX6_plan ∈ ww_GW := ww_gw (List.mem_of_getElem? (i := 181) (by decide +kernel)) rfl
theorem wk_L_212 : ww_vir RL 212 wy_X6_plan 0 := ⟨wc_X6_plan, rfl, wm_179, wm_180, wm_181⟩
theorem wm_186 : ww_hd wy_X5_makePlan ∈ ww_GW := ww_gw (List.mem_of_getElem? (i := 186) (by decide +kernel)) rfl
theorem wc_X5_makePlan : ww_cal wy_X5_makePlan 0 := ⟨wm_186, wm_52, ⟨by decide +kernel, by decide +kernel⟩, by decide +kernel, by decide⟩
theorem wm_183 : Cond.methodLink RX6 326 yX5_makePlan ∈ ww_GW := ww_gw (List.mem_of_getElem? (i := 183) (by decide +kernel)) rfl
theorem wm_184 : Cond.instanceMethod yX5_makePlan ∈ ww_GW := ww_gw (List.mem_of_getElem? (i := 184) (by decide +kernel)) rfl
theorem wm_185 : Cond.selects RX5 yX5_makePlan yX5_makePlan ∈ ww_GW := ww_gw (List.mem_of_getElem? (i := 185) (by decide +kernel)) rfl
theorem wk_X6_326 : ww_vir RX6 326 wy_X5_makePlan 0 := ⟨wc_X5_makePlan, rfl, wm_183, wm_184, wm_185⟩
theorem wm_190 : ww_hd wy_X5_markBlocked ∈ ww_GW := ww_gw (List.mem_of_getElem? (i := 190) (by decide +kernel)) rfl
theorem wc_X5_markBlocked : ww_cal wy_X5_markBlocked 0 := ⟨wm_190, wm_52, ⟨by decide +kernel, by decide +kernel⟩, by decide +kernel, by decide⟩
theorem wm_187 : Cond.methodLink RX5 39 yX5_markBlocked ∈ ww_GW := ww_gw (List.mem_of_getElem? (i := 187) (by decide +kernel)) rfl
theorem wm_189 : Cond.instanceMethod yX5_markBlocked ∈ ww_GW := ww_gw (List.mem_of_getElem? (i := 189) (by decide +kernel)) rfl
theorem wm_0 : Cond.selects RX5 yX5_markBlocked yX5_markBlocked ∈ ww_GW := ww_gw (List.mem_of_getElem? (i := 0) (by decide +kernel)) rfl
theorem wk_X5_39 : ww_vir RX5 39 wy_X5_markBlocked 0 := ⟨wc_X5_markBlocked, rfl, wm_187, wm_189, wm_0⟩
theorem wm_194 : ww_hd wy_Jx4a65c_size_8abf5 ∈ ww_GW := ww_gw (List.mem_of_getElem? (i := 194) (by decide +kernel)) rfl
theorem wc_Jx4a65c_size_8abf5 : ww_cal wy_Jx4a65c_size_8abf5 0 := ⟨wm_194, wm_50, ⟨by decide +kernel, by decide +kernel⟩, by decide +kernel, by decide⟩
theorem wm_191 : Cond.methodLink RX5 25 yJx4a65c_size_8abf5 ∈ ww_GW := ww_gw (List.mem_of_getElem? (i := 191) (by decide +kernel)) rfl
theorem wm_192 : Cond.instanceMethod yJx4a65c_size_8abf5 ∈ ww_GW := ww_gw (List.mem_of_getElem? (i := 192) (by decide +kernel)) rfl
theorem wm_193 : Cond.selects RJx4a65c yJx4a65c_size_8abf5 yJx4a65c_size_8abf5 ∈ ww_GW := ww_gw (List.mem_of_getElem? (i := 193) (by decide +kernel)) rfl
theorem wk_X5_25 : ww_vir RX5 25 wy_Jx4a65c_size_8abf5 0 := ⟨wc_Jx4a65c_size_8abf5, rfl, wm_191, wm_192, wm_193⟩
theorem wm_198 : ww_hd wy_Jx4a65c_get_915e3 ∈ ww_GW := ww_gw (List.mem_of_getElem? (i := 198) (by decide +kernel)) rfl
theorem wc_Jx4a65c_get_915e3 : ww_cal wy_Jx4a65c_get_915e3 1 := ⟨wm_198, wm_50, ⟨by decide +kernel, by decide +kernel⟩, by decide +kernel, by decide⟩
theorem wm_195 : Cond.methodLink RX5 29 yJx4a65c_get_915e3 ∈ ww_GW := ww_gw (List.mem_of_getElem? (i := 195) (by decide +kernel)) rfl
theorem wm_196 : Cond.instanceMethod yJx4a65c_get_915e3 ∈ ww_GW := ww_gw (List.mem_of_getElem? (i := 196) (by decide +kernel)) rfl
theorem wm_197 : Cond.selects RJx4a65c yJx4a65c_get_915e3 yJx4a65c_get_915e3 ∈ ww_GW := ww_gw (List.mem_of_getElem? (i := 197) (by decide +kernel)) rfl
theorem wk_X5_29 : ww_vir RX5 29 wy_Jx4a65c_get_915e3 1 := ⟨wc_Jx4a65c_get_915e3, rfl, wm_195, wm_196, wm_197⟩
theorem wm_201 : ww_hd wy_J15_checkIndex_7cf53 ∈ ww_GW := ww_gw (List.mem_of_getElem? (i := 201) (by decide +kernel)) rfl
theorem wm_67 : Cond.initialized RJ15 ∈ ww_GW := ww_gw (List.mem_of_getElem? (i := 67) (by decide +kernel)) rfl
theorem wc_J15_checkIndex_7cf53 : ww_cal wy_J15_checkIndex_7cf53 2 := ⟨wm_201, wm_67, ⟨by decide +kernel, by decide +kernel⟩, by decide +kernel, by decide⟩
theorem wm_199 : Cond.methodLink RJx4a65c 118 yJ15_checkIndex_7cf53 ∈ ww_GW := ww_gw (List.mem_of_getElem? (i := 199) (by decide +kernel)) rfl
theorem wm_200 : Cond.static yJ15_checkIndex_7cf53 ∈ ww_GW := ww_gw (List.mem_of_getElem? (i := 200) (by decide +kernel)) rfl
theorem wk_Jx4a65c_118 : ww_sta RJx4a65c 118 wy_J15_checkIndex_7cf53 2 := ⟨wc_J15_checkIndex_7cf53, wm_199, wm_200⟩
theorem wm_204 : ww_hd wy_J3_checkIndex_8e157 ∈ ww_GW := ww_gw (List.mem_of_getElem? (i := 204) (by decide +kernel)) rfl
theorem wm_68 : Cond.initialized RJ3 ∈ ww_GW := ww_gw (List.mem_of_getElem? (i := 68) (by decide +kernel)) rfl
theorem wc_J3_checkIndex_8e157 : ww_cal wy_J3_checkIndex_8e157 3 := ⟨wm_204, wm_68, ⟨by decide +kernel, by decide +kernel⟩, by decide +kernel, by decide⟩
theorem wm_202 : Cond.methodLink RJ15 105 yJ3_checkIndex_8e157 ∈ ww_GW := ww_gw (List.mem_of_getElem? (i := 202) (by decide +kernel)) rfl
theorem wm_203 : Cond.static yJ3_checkIndex_8e157 ∈ ww_GW := ww_gw (List.mem_of_getElem? (i := 203) (by decide +kernel)) rfl
theorem wk_J15_105 : ww_sta RJ15 105 wy_J3_checkIndex_8e157 3 := ⟨wc_J3_checkIndex_8e157, wm_202, wm_203⟩
theorem wm_208 : ww_hd wy_Jx4a65c_elementData_915e3 ∈ ww_GW := ww_gw (List.mem_of_getElem? (i := 208) (by decide +kernel)) rfl
theorem wc_Jx4a65c_elementData_915e3 : ww_cal wy_Jx4a65c_elementData_915e3 1 := ⟨wm_208, wm_50, ⟨by decide +kernel, by decide +kernel⟩, by decide +kernel, by decide⟩
theorem wm_205 : Cond.methodLink RJx4a65c 123 yJx4a65c_elementData_915e3 ∈ ww_GW := ww_gw (List.mem_of_getElem? (i := 205) (by decide +kernel)) rfl
theorem wm_206 : Cond.instanceMethod yJx4a65c_elementData_915e3 ∈ ww_GW := ww_gw (List.mem_of_getElem? (i := 206) (by decide +kernel)) rfl
theorem wm_207 : Cond.selects RJx4a65c yJx4a65c_elementData_915e3 yJx4a65c_elementData_915e3 ∈ ww_GW := ww_gw (List.mem_of_getElem? (i := 207) (by decide +kernel)) rfl
theorem wk_Jx4a65c_123 : ww_vir RJx4a65c 123 wy_Jx4a65c_elementData_915e3 1 := ⟨wc_Jx4a65c_elementData_915e3, rfl, wm_205, wm_206, wm_207⟩
theorem wm_212 : ww_hd wy_X5_searchPlan ∈ ww_GW := ww_gw (List.mem_of_getElem? (i := 212) (by decide +kernel)) rfl
theorem wc_X5_searchPlan : ww_cal wy_X5_searchPlan 4 := ⟨wm_212, wm_52, ⟨by decide +kernel, by decide +kernel⟩, by decide +kernel, by decide⟩
theorem wm_210 : Cond.methodLink RX5 45 yX5_searchPlan ∈ ww_GW := ww_gw (List.mem_of_getElem? (i := 210) (by decide +kernel)) rfl
theorem wm_211 : Cond.static yX5_searchPlan ∈ ww_GW := ww_gw (List.mem_of_getElem? (i := 211) (by decide +kernel)) rfl
theorem wk_X5_45 : ww_sta RX5 45 wy_X5_searchPlan 4 := ⟨wc_X5_searchPlan, wm_210, wm_211⟩
theorem wm_215 : ww_hd wy_X5_trainsIn ∈ ww_GW := ww_gw (List.mem_of_getElem? (i := 215) (by decide +kernel)) rfl
theorem wc_X5_trainsIn : ww_cal wy_X5_trainsIn 2 := ⟨wm_215, wm_52, ⟨by decide +kernel, by decide +kernel⟩, by decide +kernel, by decide⟩
theorem wm_213 : Cond.methodLink RX5 79 yX5_trainsIn ∈ ww_GW := ww_gw (List.mem_of_getElem? (i := 213) (by decide +kernel)) rfl
theorem wm_214 : Cond.static yX5_trainsIn ∈ ww_GW := ww_gw (List.mem_of_getElem? (i := 214) (by decide +kernel)) rfl
theorem wk_X5_79 : ww_sta RX5 79 wy_X5_trainsIn 2 := ⟨wc_X5_trainsIn, wm_213, wm_214⟩
theorem wm_218 : ww_hd wy_J6_bitCount_0f7a4 ∈ ww_GW := ww_gw (List.mem_of_getElem? (i := 218) (by decide +kernel)) rfl
theorem wm_70 : Cond.initialized RJ6 ∈ ww_GW := ww_gw (List.mem_of_getElem? (i := 70) (by decide +kernel)) rfl
theorem wc_J6_bitCount_0f7a4 : ww_cal wy_J6_bitCount_0f7a4 1 := ⟨wm_218, wm_70, ⟨by decide +kernel, by decide +kernel⟩, by decide +kernel, by decide⟩
theorem wm_216 : Cond.methodLink RX5 82 yJ6_bitCount_0f7a4 ∈ ww_GW := ww_gw (List.mem_of_getElem? (i := 216) (by decide +kernel)) rfl
theorem wm_217 : Cond.static yJ6_bitCount_0f7a4 ∈ ww_GW := ww_gw (List.mem_of_getElem? (i := 217) (by decide +kernel)) rfl
theorem wk_X5_82 : ww_sta RX5 82 wy_J6_bitCount_0f7a4 1 := ⟨wc_J6_bitCount_0f7a4, wm_216, wm_217⟩
theorem wm_224 : ww_hd wy_X5_bitOf ∈ ww_GW := ww_gw (List.mem_of_getElem? (i := 224) (by decide +kernel)) rfl
theorem wc_X5_bitOf : ww_cal wy_X5_bitOf 2 := ⟨wm_224, wm_52, ⟨by decide +kernel, by decide +kernel⟩, by decide +kernel, by decide⟩
theorem wm_222 : Cond.methodLink RX5 88 yX5_bitOf ∈ ww_GW := ww_gw (List.mem_of_getElem? (i := 222) (by decide +kernel)) rfl
theorem wm_223 : Cond.static yX5_bitOf ∈ ww_GW := ww_gw (List.mem_of_getElem? (i := 223) (by decide +kernel)) rfl
theorem wk_X5_88 : ww_sta RX5 88 wy_X5_bitOf 2 := ⟨wc_X5_bitOf, wm_222, wm_223⟩
theorem wm_228 : ww_hd wy_X6_planAnew ∈ ww_GW := ww_gw (List.mem_of_getElem? (i := 228) (by decide +kernel)) rfl
theorem wc_X6_planAnew : ww_cal wy_X6_planAnew 0 := ⟨wm_228, wm_47, ⟨by decide +kernel, by decide +kernel⟩, by decide +kernel, by decide⟩
theorem wm_225 : Cond.methodLink RL 216 yX6_planAnew ∈ ww_GW := ww_gw (List.mem_of_getElem? (i := 225) (by decide +kernel)) rfl
theorem wm_226 : Cond.instanceMethod yX6_planAnew ∈ ww_GW := ww_gw (List.mem_of_getElem? (i := 226) (by decide +kernel)) rfl
theorem wm_227 : Cond.selects RX6 yX6_planAnew yX6_planAnew ∈ ww_GW := ww_gw (List.mem_of_getElem? (i := 227) (by decide +kernel)) rfl
theorem wk_L_216 : ww_vir RL 216 wy_X6_planAnew 0 := ⟨wc_X6_planAnew, rfl, wm_225, wm_226, wm_227⟩
theorem wm_232 : ww_hd wy_X5_makePlanAnew ∈ ww_GW := ww_gw (List.mem_of_getElem? (i := 232) (by decide +kernel)) rfl
theorem wc_X5_makePlanAnew : ww_cal wy_X5_makePlanAnew 0 := ⟨wm_232, wm_52, ⟨by decide +kernel, by decide +kernel⟩, by decide +kernel, by decide⟩
theorem wm_229 : Cond.methodLink RX6 329 yX5_makePlanAnew ∈ ww_GW := ww_gw (List.mem_of_getElem? (i := 229) (by decide +kernel)) rfl
theorem wm_230 : Cond.instanceMethod yX5_makePlanAnew ∈ ww_GW := ww_gw (List.mem_of_getElem? (i := 230) (by decide +kernel)) rfl
theorem wm_231 : Cond.selects RX5 yX5_makePlanAnew yX5_makePlanAnew ∈ ww_GW := ww_gw (List.mem_of_getElem? (i := 231) (by decide +kernel)) rfl
theorem wk_X6_329 : ww_vir RX6 329 wy_X5_makePlanAnew 0 := ⟨wc_X5_makePlanAnew, rfl, wm_229, wm_230, wm_231⟩
theorem wm_235 : ww_hd wy_X5_fewestMoves ∈ ww_GW := ww_gw (List.mem_of_getElem? (i := 235) (by decide +kernel)) rfl
theorem wc_X5_fewestMoves : ww_cal wy_X5_fewestMoves 3 := ⟨wm_235, wm_52, ⟨by decide +kernel, by decide +kernel⟩, by decide +kernel, by decide⟩
theorem wm_233 : Cond.methodLink RX5 49 yX5_fewestMoves ∈ ww_GW := ww_gw (List.mem_of_getElem? (i := 233) (by decide +kernel)) rfl
theorem wm_234 : Cond.static yX5_fewestMoves ∈ ww_GW := ww_gw (List.mem_of_getElem? (i := 234) (by decide +kernel)) rfl
theorem wk_X5_49 : ww_sta RX5 49 wy_X5_fewestMoves 3 := ⟨wc_X5_fewestMoves, wm_233, wm_234⟩
theorem wm_238 : ww_hd wy_J9_min_7cf53 ∈ ww_GW := ww_gw (List.mem_of_getElem? (i := 238) (by decide +kernel)) rfl
theorem wm_63 : Cond.initialized RJ9 ∈ ww_GW := ww_gw (List.mem_of_getElem? (i := 63) (by decide +kernel)) rfl
theorem wc_J9_min_7cf53 : ww_cal wy_J9_min_7cf53 2 := ⟨wm_238, wm_63, ⟨by decide +kernel, by decide +kernel⟩, by decide +kernel, by decide⟩
theorem wm_236 : Cond.methodLink RX5 91 yJ9_min_7cf53 ∈ ww_GW := ww_gw (List.mem_of_getElem? (i := 236) (by decide +kernel)) rfl
theorem wm_237 : Cond.static yJ9_min_7cf53 ∈ ww_GW := ww_gw (List.mem_of_getElem? (i := 237) (by decide +kernel)) rfl
theorem wk_X5_91 : ww_sta RX5 91 wy_J9_min_7cf53 2 := ⟨wc_J9_min_7cf53, wm_236, wm_237⟩
theorem wm_241 : ww_hd wy_L_part ∈ ww_GW := ww_gw (List.mem_of_getElem? (i := 241) (by decide +kernel)) rfl
theorem wm_46 : Cond.initialized RL ∈ ww_GW := ww_gw (List.mem_of_getElem? (i := 46) (by decide +kernel)) rfl
theorem wc_L_part : ww_cal wy_L_part 5 := ⟨wm_241, wm_46, ⟨by decide +kernel, by decide +kernel⟩, by decide +kernel, by decide⟩
theorem wm_239 : Cond.methodLink RL 115 yL_part ∈ ww_GW := ww_gw (List.mem_of_getElem? (i := 239) (by decide +kernel)) rfl
theorem wm_240 : Cond.static yL_part ∈ ww_GW := ww_gw (List.mem_of_getElem? (i := 240) (by decide +kernel)) rfl
theorem wk_L_115 : ww_sta RL 115 wy_L_part 5 := ⟨wc_L_part, wm_239, wm_240⟩
theorem wm_247 : ww_hd wy_X6_part ∈ ww_GW := ww_gw (List.mem_of_getElem? (i := 247) (by decide +kernel)) rfl
theorem wc_X6_part : ww_cal wy_X6_part 3 := ⟨wm_247, wm_47, ⟨by decide +kernel, by decide +kernel⟩, by decide +kernel, by decide⟩
theorem wm_244 : Cond.methodLink RL 7 yX6_part ∈ ww_GW := ww_gw (List.mem_of_getElem? (i := 244) (by decide +kernel)) rfl
theorem wm_245 : Cond.instanceMethod yX6_part ∈ ww_GW := ww_gw (List.mem_of_getElem? (i := 245) (by decide +kernel)) rfl
theorem wm_246 : Cond.selects RX6 yX6_part yX6_part ∈ ww_GW := ww_gw (List.mem_of_getElem? (i := 246) (by decide +kernel)) rfl
theorem wk_L_7 : ww_vir RL 7 wy_X6_part 3 := ⟨wc_X6_part, rfl, wm_244, wm_245, wm_246⟩
theorem wm_251 : ww_hd wy_X6_limitsOf ∈ ww_GW := ww_gw (List.mem_of_getElem? (i := 251) (by decide +kernel)) rfl
theorem wc_X6_limitsOf : ww_cal wy_X6_limitsOf 1 := ⟨wm_251, wm_47, ⟨by decide +kernel, by decide +kernel⟩, by decide +kernel, by decide⟩
theorem wm_248 : Cond.methodLink RX6 37 yX6_limitsOf ∈ ww_GW := ww_gw (List.mem_of_getElem? (i := 248) (by decide +kernel)) rfl
theorem wm_250 : Cond.instanceMethod yX6_limitsOf ∈ ww_GW := ww_gw (List.mem_of_getElem? (i := 250) (by decide +kernel)) rfl
theorem wm_1 : Cond.selects RX6 yX6_limitsOf yX6_limitsOf ∈ ww_GW := ww_gw (List.mem_of_getElem? (i := 1) (by decide +kernel)) rfl
theorem wk_X6_37 : ww_vir RX6 37 wy_X6_limitsOf 1 := ⟨wc_X6_limitsOf, rfl, wm_248, wm_250, wm_1⟩
theorem wm_322 : ww_hd wy_X6_isOutside ∈ ww_GW := ww_gw (List.mem_of_getElem? (i := 322) (by decide +kernel)) rfl
theorem wc_X6_isOutside : ww_cal wy_X6_isOutside 3 := ⟨wm_322, wm_47, ⟨by decide +kernel, by decide +kernel⟩, by decide +kernel, by decide⟩
theorem wm_320 : Cond.methodLink RX6 41 yX6_isOutside ∈ ww_GW := ww_gw (List.mem_of_getElem? (i := 320) (by decide +kernel)) rfl
theorem wm_321 : Cond.static yX6_isOutside ∈ ww_GW := ww_gw (List.mem_of_getElem? (i := 321) (by decide +kernel)) rfl
theorem wk_X6_41 : ww_sta RX6 41 wy_X6_isOutside 3 := ⟨wc_X6_isOutside, wm_320, wm_321⟩
theorem wm_324 : Cond.methodLink RX6 52 yJx4a65c_size_8abf5 ∈ ww_GW := ww_gw (List.mem_of_getElem? (i := 324) (by decide +kernel)) rfl
theorem wk_X6_52 : ww_vir RX6 52 wy_Jx4a65c_size_8abf5 0 := ⟨wc_Jx4a65c_size_8abf5, rfl, wm_324, wm_192, wm_193⟩
theorem wm_345 : ww_hd wy_X3_init ∈ ww_GW := ww_gw (List.mem_of_getElem? (i := 345) (by decide +kernel)) rfl
theorem wm_60 : Cond.initialized RX3 ∈ ww_GW := ww_gw (List.mem_of_getElem? (i := 60) (by decide +kernel)) rfl
theorem wc_X3_init : ww_cal wy_X3_init 5 := ⟨wm_345, wm_60, ⟨by decide +kernel, by decide +kernel⟩, by decide +kernel, by decide⟩
theorem wm_343 : Cond.methodLink RX6 63 yX3_init ∈ ww_GW := ww_gw (List.mem_of_getElem? (i := 343) (by decide +kernel)) rfl
theorem wm_344 : Cond.instanceMethod yX3_init ∈ ww_GW := ww_gw (List.mem_of_getElem? (i := 344) (by decide +kernel)) rfl
theorem wk_X6_63 : ww_ini RX6 63 wy_X3_init 5 := ⟨wc_X3_init, rfl, wm_343, wm_344, rfl⟩
theorem wm_351 : ww_hd wy_X4_init ∈ ww_GW := ww_gw (List.mem_of_getElem? (i := 351) (by decide +kernel)) rfl
theorem wm_61 : Cond.initialized RX4 ∈ ww_GW := ww_gw (List.mem_of_getElem? (i := 61) (by decide +kernel)) rfl
theorem wc_X4_init : ww_cal wy_X4_init 0 := ⟨wm_351, wm_61, ⟨by decide +kernel, by decide +kernel⟩, by decide +kernel, by decide⟩
theorem wm_350 : Cond.instanceMethod yX4_init ∈ ww_GW := ww_gw (List.mem_of_getElem? (i := 350) (by decide +kernel)) rfl
theorem wk_X3_33 : ww_inn RX3 33 wy_X4_init 0 := ⟨wc_X4_init, rfl, ⟨"WheelWorks", by decide +kernel⟩, wm_350, rfl⟩
theorem wm_443 : ww_hd wy_Jx4a65c_add_9ea2d ∈ ww_GW := ww_gw (List.mem_of_getElem? (i := 443) (by decide +kernel)) rfl
theorem wc_Jx4a65c_add_9ea2d : ww_cal wy_Jx4a65c_add_9ea2d 1 := ⟨wm_443, wm_50, ⟨by decide +kernel, by decide +kernel⟩, by decide +kernel, by decide⟩
theorem wm_440 : Cond.methodLink RX6 66 yJx4a65c_add_9ea2d ∈ ww_GW := ww_gw (List.mem_of_getElem? (i := 440) (by decide +kernel)) rfl
theorem wm_441 : Cond.instanceMethod yJx4a65c_add_9ea2d ∈ ww_GW := ww_gw (List.mem_of_getElem? (i := 441) (by decide +kernel)) rfl
theorem wm_442 : Cond.selects RJx4a65c yJx4a65c_add_9ea2d yJx4a65c_add_9ea2d ∈ ww_GW := ww_gw (List.mem_of_getElem? (i := 442) (by decide +kernel)) rfl
theorem wk_X6_66 : ww_vir RX6 66 wy_Jx4a65c_add_9ea2d 1 := ⟨wc_Jx4a65c_add_9ea2d, rfl, wm_440, wm_441, wm_442⟩
theorem wm_447 : ww_hd wy_Jx4a65c_add_72be8 ∈ ww_GW := ww_gw (List.mem_of_getElem? (i := 447) (by decide +kernel)) rfl
theorem wc_Jx4a65c_add_72be8 : ww_cal wy_Jx4a65c_add_72be8 3 := ⟨wm_447, wm_50, ⟨by decide +kernel, by decide +kernel⟩, by decide +kernel, by decide⟩
theorem wm_444 : Cond.methodLink RJx4a65c 131 yJx4a65c_add_72be8 ∈ ww_GW := ww_gw (List.mem_of_getElem? (i := 444) (by decide +kernel)) rfl
theorem wm_446 : Cond.instanceMethod yJx4a65c_add_72be8 ∈ ww_GW := ww_gw (List.mem_of_getElem? (i := 446) (by decide +kernel)) rfl
theorem wm_3 : Cond.selects RJx4a65c yJx4a65c_add_72be8 yJx4a65c_add_72be8 ∈ ww_GW := ww_gw (List.mem_of_getElem? (i := 3) (by decide +kernel)) rfl
theorem wk_Jx4a65c_131 : ww_vir RJx4a65c 131 wy_Jx4a65c_add_72be8 3 := ⟨wc_Jx4a65c_add_72be8, rfl, wm_444, wm_446, wm_3⟩
theorem wm_451 : ww_hd wy_Jx4a65c_grow_d5877 ∈ ww_GW := ww_gw (List.mem_of_getElem? (i := 451) (by decide +kernel)) rfl
theorem wc_Jx4a65c_grow_d5877 : ww_cal wy_Jx4a65c_grow_d5877 0 := ⟨wm_451, wm_50, ⟨by decide +kernel, by decide +kernel⟩, by decide +kernel, by decide⟩
theorem wm_448 : Cond.methodLink RJx4a65c 129 yJx4a65c_grow_d5877 ∈ ww_GW := ww_gw (List.mem_of_getElem? (i := 448) (by decide +kernel)) rfl
theorem wm_450 : Cond.instanceMethod yJx4a65c_grow_d5877 ∈ ww_GW := ww_gw (List.mem_of_getElem? (i := 450) (by decide +kernel)) rfl
theorem wm_4 : Cond.selects RJx4a65c yJx4a65c_grow_d5877 yJx4a65c_grow_d5877 ∈ ww_GW := ww_gw (List.mem_of_getElem? (i := 4) (by decide +kernel)) rfl
theorem wk_Jx4a65c_129 : ww_vir RJx4a65c 129 wy_Jx4a65c_grow_d5877 0 := ⟨wc_Jx4a65c_grow_d5877, rfl, wm_448, wm_450, wm_4⟩
theorem wm_455 : ww_hd wy_Jx4a65c_grow_92f84 ∈ ww_GW := ww_gw (List.mem_of_getElem? (i := 455) (by decide +kernel)) rfl
theorem wc_Jx4a65c_grow_92f84 : ww_cal wy_Jx4a65c_grow_92f84 1 := ⟨wm_455, wm_50, ⟨by decide +kernel, by decide +kernel⟩, by decide +kernel, by decide⟩
theorem wm_452 : Cond.methodLink RJx4a65c 69 yJx4a65c_grow_92f84 ∈ ww_GW := ww_gw (List.mem_of_getElem? (i := 452) (by decide +kernel)) rfl
theorem wm_454 : Cond.instanceMethod yJx4a65c_grow_92f84 ∈ ww_GW := ww_gw (List.mem_of_getElem? (i := 454) (by decide +kernel)) rfl
theorem wm_5 : Cond.selects RJx4a65c yJx4a65c_grow_92f84 yJx4a65c_grow_92f84 ∈ ww_GW := ww_gw (List.mem_of_getElem? (i := 5) (by decide +kernel)) rfl
theorem wk_Jx4a65c_69 : ww_vir RJx4a65c 69 wy_Jx4a65c_grow_92f84 1 := ⟨wc_Jx4a65c_grow_92f84, rfl, wm_452, wm_454, wm_5⟩
theorem wm_458 : ww_hd wy_J8_newLength_cabcc ∈ ww_GW := ww_gw (List.mem_of_getElem? (i := 458) (by decide +kernel)) rfl
theorem wm_62 : Cond.initialized RJ8 ∈ ww_GW := ww_gw (List.mem_of_getElem? (i := 62) (by decide +kernel)) rfl
theorem wc_J8_newLength_cabcc : ww_cal wy_J8_newLength_cabcc 3 := ⟨wm_458, wm_62, ⟨by decide +kernel, by decide +kernel⟩, by decide +kernel, by decide⟩
theorem wm_456 : Cond.methodLink RJx4a65c 73 yJ8_newLength_cabcc ∈ ww_GW := ww_gw (List.mem_of_getElem? (i := 456) (by decide +kernel)) rfl
theorem wm_457 : Cond.static yJ8_newLength_cabcc ∈ ww_GW := ww_gw (List.mem_of_getElem? (i := 457) (by decide +kernel)) rfl
theorem wk_Jx4a65c_73 : ww_sta RJx4a65c 73 wy_J8_newLength_cabcc 3 := ⟨wc_J8_newLength_cabcc, wm_456, wm_457⟩
theorem wm_461 : ww_hd wy_J9_max_7cf53 ∈ ww_GW := ww_gw (List.mem_of_getElem? (i := 461) (by decide +kernel)) rfl
theorem wc_J9_max_7cf53 : ww_cal wy_J9_max_7cf53 2 := ⟨wm_461, wm_63, ⟨by decide +kernel, by decide +kernel⟩, by decide +kernel, by decide⟩
theorem wm_459 : Cond.methodLink RJ8 194 yJ9_max_7cf53 ∈ ww_GW := ww_gw (List.mem_of_getElem? (i := 459) (by decide +kernel)) rfl
theorem wm_460 : Cond.static yJ9_max_7cf53 ∈ ww_GW := ww_gw (List.mem_of_getElem? (i := 460) (by decide +kernel)) rfl
theorem wk_J8_194 : ww_sta RJ8 194 wy_J9_max_7cf53 2 := ⟨wc_J9_max_7cf53, wm_459, wm_460⟩
theorem wm_465 : ww_hd wy_J8_hugeLength_7cf53 ∈ ww_GW := ww_gw (List.mem_of_getElem? (i := 465) (by decide +kernel)) rfl
theorem wc_J8_hugeLength_7cf53 : ww_cal wy_J8_hugeLength_7cf53 2 := ⟨wm_465, wm_62, ⟨by decide +kernel, by decide +kernel⟩, by decide +kernel, by decide⟩
theorem wm_463 : Cond.methodLink RJ8 201 yJ8_hugeLength_7cf53 ∈ ww_GW := ww_gw (List.mem_of_getElem? (i := 463) (by decide +kernel)) rfl
theorem wm_464 : Cond.static yJ8_hugeLength_7cf53 ∈ ww_GW := ww_gw (List.mem_of_getElem? (i := 464) (by decide +kernel)) rfl
theorem wk_J8_201 : ww_sta RJ8 201 wy_J8_hugeLength_7cf53 2 := ⟨wc_J8_hugeLength_7cf53, wm_463, wm_464⟩
theorem wm_468 : ww_hd wy_J7_copyOf_1904c ∈ ww_GW := ww_gw (List.mem_of_getElem? (i := 468) (by decide +kernel)) rfl
theorem wm_64 : Cond.initialized RJ7 ∈ ww_GW := ww_gw (List.mem_of_getElem? (i := 64) (by decide +kernel)) rfl
theorem wc_J7_copyOf_1904c : ww_cal wy_J7_copyOf_1904c 2 := ⟨wm_468, wm_64, ⟨by decide +kernel, by decide +kernel⟩, by decide +kernel, by decide⟩
theorem wm_466 : Cond.methodLink RJx4a65c 66 yJ7_copyOf_1904c ∈ ww_GW := ww_gw (List.mem_of_getElem? (i := 466) (by decide +kernel)) rfl
theorem wm_467 : Cond.static yJ7_copyOf_1904c ∈ ww_GW := ww_gw (List.mem_of_getElem? (i := 467) (by decide +kernel)) rfl
theorem wk_Jx4a65c_66 : ww_sta RJx4a65c 66 wy_J7_copyOf_1904c 2 := ⟨wc_J7_copyOf_1904c, wm_466, wm_467⟩
theorem wm_487 : ww_hd wy_J7_copyOf_6403c ∈ ww_GW := ww_gw (List.mem_of_getElem? (i := 487) (by decide +kernel)) rfl
theorem wc_J7_copyOf_6403c : ww_cal wy_J7_copyOf_6403c 3 := ⟨wm_487, wm_64, ⟨by decide +kernel, by decide +kernel⟩, by decide +kernel, by decide⟩
theorem wm_485 : Cond.methodLink RJ7 300 yJ7_copyOf_6403c ∈ ww_GW := ww_gw (List.mem_of_getElem? (i := 485) (by decide +kernel)) rfl
theorem wm_486 : Cond.static yJ7_copyOf_6403c ∈ ww_GW := ww_gw (List.mem_of_getElem? (i := 486) (by decide +kernel)) rfl
theorem wk_J7_300 : ww_sta RJ7 300 wy_J7_copyOf_6403c 3 := ⟨wc_J7_copyOf_6403c, wm_485, wm_486⟩
theorem wm_491 : Cond.methodLink RJ7 304 yJ9_min_7cf53 ∈ ww_GW := ww_gw (List.mem_of_getElem? (i := 491) (by decide +kernel)) rfl
theorem wk_J7_304 : ww_sta RJ7 304 wy_J9_min_7cf53 2 := ⟨wc_J9_min_7cf53, wm_491, wm_237⟩
theorem wm_495 : Cond.methodLink RJx4a65c 79 yJ9_max_7cf53 ∈ ww_GW := ww_gw (List.mem_of_getElem? (i := 495) (by decide +kernel)) rfl
theorem wk_Jx4a65c_79 : ww_sta RJx4a65c 79 wy_J9_max_7cf53 2 := ⟨wc_J9_max_7cf53, wm_495, wm_460⟩
theorem wm_499 : ww_hd wy_L_limits ∈ ww_GW := ww_gw (List.mem_of_getElem? (i := 499) (by decide +kernel)) rfl
theorem wc_L_limits : ww_cal wy_L_limits 6 := ⟨wm_499, wm_46, ⟨by decide +kernel, by decide +kernel⟩, by decide +kernel, by decide⟩
theorem wm_497 : Cond.methodLink RL 124 yL_limits ∈ ww_GW := ww_gw (List.mem_of_getElem? (i := 497) (by decide +kernel)) rfl
theorem wm_498 : Cond.static yL_limits ∈ ww_GW := ww_gw (List.mem_of_getElem? (i := 498) (by decide +kernel)) rfl
theorem wk_L_124 : ww_sta RL 124 wy_L_limits 6 := ⟨wc_L_limits, wm_497, wm_498⟩
theorem wm_503 : ww_hd wy_X6_limits ∈ ww_GW := ww_gw (List.mem_of_getElem? (i := 503) (by decide +kernel)) rfl
theorem wc_X6_limits : ww_cal wy_X6_limits 4 := ⟨wm_503, wm_47, ⟨by decide +kernel, by decide +kernel⟩, by decide +kernel, by decide⟩
theorem wm_500 : Cond.methodLink RL 17 yX6_limits ∈ ww_GW := ww_gw (List.mem_of_getElem? (i := 500) (by decide +kernel)) rfl
theorem wm_501 : Cond.instanceMethod yX6_limits ∈ ww_GW := ww_gw (List.mem_of_getElem? (i := 501) (by decide +kernel)) rfl
theorem wm_502 : Cond.selects RX6 yX6_limits yX6_limits ∈ ww_GW := ww_gw (List.mem_of_getElem? (i := 502) (by decide +kernel)) rfl
theorem wk_L_17 : ww_vir RL 17 wy_X6_limits 4 := ⟨wc_X6_limits, rfl, wm_500, wm_501, wm_502⟩
theorem wm_508 : ww_hd wy_L_fit ∈ ww_GW := ww_gw (List.mem_of_getElem? (i := 508) (by decide +kernel)) rfl
theorem wc_L_fit : ww_cal wy_L_fit 4 := ⟨wm_508, wm_46, ⟨by decide +kernel, by decide +kernel⟩, by decide +kernel, by decide⟩
theorem wm_506 : Cond.methodLink RL 128 yL_fit ∈ ww_GW := ww_gw (List.mem_of_getElem? (i := 506) (by decide +kernel)) rfl
theorem wm_507 : Cond.static yL_fit ∈ ww_GW := ww_gw (List.mem_of_getElem? (i := 507) (by decide +kernel)) rfl
theorem wk_L_128 : ww_sta RL 128 wy_L_fit 4 := ⟨wc_L_fit, wm_506, wm_507⟩
theorem wm_513 : ww_hd wy_X6_fit ∈ ww_GW := ww_gw (List.mem_of_getElem? (i := 513) (by decide +kernel)) rfl
theorem wc_X6_fit : ww_cal wy_X6_fit 2 := ⟨wm_513, wm_47, ⟨by decide +kernel, by decide +kernel⟩, by decide +kernel, by decide⟩
theorem wm_510 : Cond.methodLink RL 21 yX6_fit ∈ ww_GW := ww_gw (List.mem_of_getElem? (i := 510) (by decide +kernel)) rfl
theorem wm_511 : Cond.instanceMethod yX6_fit ∈ ww_GW := ww_gw (List.mem_of_getElem? (i := 511) (by decide +kernel)) rfl
theorem wm_512 : Cond.selects RX6 yX6_fit yX6_fit ∈ ww_GW := ww_gw (List.mem_of_getElem? (i := 512) (by decide +kernel)) rfl
theorem wk_L_21 : ww_vir RL 21 wy_X6_fit 2 := ⟨wc_X6_fit, rfl, wm_510, wm_511, wm_512⟩
theorem wm_517 : ww_hd wy_X6_existing ∈ ww_GW := ww_gw (List.mem_of_getElem? (i := 517) (by decide +kernel)) rfl
theorem wc_X6_existing : ww_cal wy_X6_existing 1 := ⟨wm_517, wm_47, ⟨by decide +kernel, by decide +kernel⟩, by decide +kernel, by decide⟩
theorem wm_514 : Cond.methodLink RX6 83 yX6_existing ∈ ww_GW := ww_gw (List.mem_of_getElem? (i := 514) (by decide +kernel)) rfl
theorem wm_516 : Cond.instanceMethod yX6_existing ∈ ww_GW := ww_gw (List.mem_of_getElem? (i := 516) (by decide +kernel)) rfl
theorem wm_6 : Cond.selects RX6 yX6_existing yX6_existing ∈ ww_GW := ww_gw (List.mem_of_getElem? (i := 6) (by decide +kernel)) rfl
theorem wk_X6_83 : ww_vir RX6 83 wy_X6_existing 1 := ⟨wc_X6_existing, rfl, wm_514, wm_516, wm_6⟩
theorem wm_534 : Cond.methodLink RX6 171 yJx4a65c_get_915e3 ∈ ww_GW := ww_gw (List.mem_of_getElem? (i := 534) (by decide +kernel)) rfl
theorem wk_X6_171 : ww_vir RX6 171 wy_Jx4a65c_get_915e3 1 := ⟨wc_Jx4a65c_get_915e3, rfl, wm_534, wm_196, wm_197⟩
theorem wm_537 : ww_hd wy_X6_placesFor ∈ ww_GW := ww_gw (List.mem_of_getElem? (i := 537) (by decide +kernel)) rfl
theorem wc_X6_placesFor : ww_cal wy_X6_placesFor 2 := ⟨wm_537, wm_47, ⟨by decide +kernel, by decide +kernel⟩, by decide +kernel, by decide⟩
theorem wm_535 : Cond.methodLink RX6 90 yX6_placesFor ∈ ww_GW := ww_gw (List.mem_of_getElem? (i := 535) (by decide +kernel)) rfl
theorem wm_536 : Cond.static yX6_placesFor ∈ ww_GW := ww_gw (List.mem_of_getElem? (i := 536) (by decide +kernel)) rfl
theorem wk_X6_90 : ww_sta RX6 90 wy_X6_placesFor 2 := ⟨wc_X6_placesFor, wm_535, wm_536⟩
theorem wm_542 : ww_hd wy_X3_isInStore ∈ ww_GW := ww_gw (List.mem_of_getElem? (i := 542) (by decide +kernel)) rfl
theorem wc_X3_isInStore : ww_cal wy_X3_isInStore 0 := ⟨wm_542, wm_60, ⟨by decide +kernel, by decide +kernel⟩, by decide +kernel, by decide⟩
theorem wm_539 : Cond.methodLink RX6 96 yX3_isInStore ∈ ww_GW := ww_gw (List.mem_of_getElem? (i := 539) (by decide +kernel)) rfl
theorem wm_540 : Cond.instanceMethod yX3_isInStore ∈ ww_GW := ww_gw (List.mem_of_getElem? (i := 540) (by decide +kernel)) rfl
theorem wm_541 : Cond.selects RX3 yX3_isInStore yX3_isInStore ∈ ww_GW := ww_gw (List.mem_of_getElem? (i := 541) (by decide +kernel)) rfl
theorem wk_X6_96 : ww_vir RX6 96 wy_X3_isInStore 0 := ⟨wc_X3_isInStore, rfl, wm_539, wm_540, wm_541⟩
theorem wm_547 : ww_hd wy_X3_isBound ∈ ww_GW := ww_gw (List.mem_of_getElem? (i := 547) (by decide +kernel)) rfl
theorem wc_X3_isBound : ww_cal wy_X3_isBound 0 := ⟨wm_547, wm_60, ⟨by decide +kernel, by decide +kernel⟩, by decide +kernel, by decide⟩
theorem wm_544 : Cond.methodLink RX6 109 yX3_isBound ∈ ww_GW := ww_gw (List.mem_of_getElem? (i := 544) (by decide +kernel)) rfl
theorem wm_545 : Cond.instanceMethod yX3_isBound ∈ ww_GW := ww_gw (List.mem_of_getElem? (i := 545) (by decide +kernel)) rfl
theorem wm_546 : Cond.selects RX3 yX3_isBound yX3_isBound ∈ ww_GW := ww_gw (List.mem_of_getElem? (i := 546) (by decide +kernel)) rfl
theorem wk_X6_109 : ww_vir RX6 109 wy_X3_isBound 0 := ⟨wc_X3_isBound, rfl, wm_544, wm_545, wm_546⟩
theorem wm_551 : ww_hd wy_X3_top ∈ ww_GW := ww_gw (List.mem_of_getElem? (i := 551) (by decide +kernel)) rfl
theorem wc_X3_top : ww_cal wy_X3_top 0 := ⟨wm_551, wm_60, ⟨by decide +kernel, by decide +kernel⟩, by decide +kernel, by decide⟩
theorem wm_548 : Cond.methodLink RX3 46 yX3_top ∈ ww_GW := ww_gw (List.mem_of_getElem? (i := 548) (by decide +kernel)) rfl
theorem wm_549 : Cond.instanceMethod yX3_top ∈ ww_GW := ww_gw (List.mem_of_getElem? (i := 549) (by decide +kernel)) rfl
theorem wm_550 : Cond.selects RX3 yX3_top yX3_top ∈ ww_GW := ww_gw (List.mem_of_getElem? (i := 550) (by decide +kernel)) rfl
theorem wk_X3_46 : ww_vir RX3 46 wy_X3_top 0 := ⟨wc_X3_top, rfl, wm_548, wm_549, wm_550⟩
theorem wm_555 : ww_hd wy_X6_inside ∈ ww_GW := ww_gw (List.mem_of_getElem? (i := 555) (by decide +kernel)) rfl
theorem wc_X6_inside : ww_cal wy_X6_inside 2 := ⟨wm_555, wm_47, ⟨by decide +kernel, by decide +kernel⟩, by decide +kernel, by decide⟩
theorem wm_552 : Cond.methodLink RX6 112 yX6_inside ∈ ww_GW := ww_gw (List.mem_of_getElem? (i := 552) (by decide +kernel)) rfl
theorem wm_554 : Cond.instanceMethod yX6_inside ∈ ww_GW := ww_gw (List.mem_of_getElem? (i := 554) (by decide +kernel)) rfl
theorem wm_7 : Cond.selects RX6 yX6_inside yX6_inside ∈ ww_GW := ww_gw (List.mem_of_getElem? (i := 7) (by decide +kernel)) rfl
theorem wk_X6_112 : ww_vir RX6 112 wy_X6_inside 2 := ⟨wc_X6_inside, rfl, wm_552, wm_554, wm_7⟩
theorem wm_559 : ww_hd wy_J9_abs_0f7a4 ∈ ww_GW := ww_gw (List.mem_of_getElem? (i := 559) (by decide +kernel)) rfl
theorem wc_J9_abs_0f7a4 : ww_cal wy_J9_abs_0f7a4 1 := ⟨wm_559, wm_63, ⟨by decide +kernel, by decide +kernel⟩, by decide +kernel, by decide⟩
theorem wm_557 : Cond.methodLink RX6 121 yJ9_abs_0f7a4 ∈ ww_GW := ww_gw (List.mem_of_getElem? (i := 557) (by decide +kernel)) rfl
theorem wm_558 : Cond.static yJ9_abs_0f7a4 ∈ ww_GW := ww_gw (List.mem_of_getElem? (i := 558) (by decide +kernel)) rfl
theorem wk_X6_121 : ww_sta RX6 121 wy_J9_abs_0f7a4 1 := ⟨wc_J9_abs_0f7a4, wm_557, wm_558⟩
theorem wm_564 : ww_hd wy_X2_addMove ∈ ww_GW := ww_gw (List.mem_of_getElem? (i := 564) (by decide +kernel)) rfl
theorem wc_X2_addMove : ww_cal wy_X2_addMove 2 := ⟨wm_564, wm_51, ⟨by decide +kernel, by decide +kernel⟩, by decide +kernel, by decide⟩
theorem wm_561 : Cond.methodLink RX6 133 yX2_addMove ∈ ww_GW := ww_gw (List.mem_of_getElem? (i := 561) (by decide +kernel)) rfl
theorem wm_562 : Cond.instanceMethod yX2_addMove ∈ ww_GW := ww_gw (List.mem_of_getElem? (i := 562) (by decide +kernel)) rfl
theorem wm_563 : Cond.selects RX2 yX2_addMove yX2_addMove ∈ ww_GW := ww_gw (List.mem_of_getElem? (i := 563) (by decide +kernel)) rfl
theorem wk_X6_133 : ww_vir RX6 133 wy_X2_addMove 2 := ⟨wc_X2_addMove, rfl, wm_561, wm_562, wm_563⟩
theorem wm_569 : ww_hd wy_X0_init ∈ ww_GW := ww_gw (List.mem_of_getElem? (i := 569) (by decide +kernel)) rfl
theorem wm_69 : Cond.initialized RX0 ∈ ww_GW := ww_gw (List.mem_of_getElem? (i := 69) (by decide +kernel)) rfl
theorem wc_X0_init : ww_cal wy_X0_init 3 := ⟨wm_569, wm_69, ⟨by decide +kernel, by decide +kernel⟩, by decide +kernel, by decide⟩
theorem wm_567 : Cond.methodLink RX2 24 yX0_init ∈ ww_GW := ww_gw (List.mem_of_getElem? (i := 567) (by decide +kernel)) rfl
theorem wm_568 : Cond.instanceMethod yX0_init ∈ ww_GW := ww_gw (List.mem_of_getElem? (i := 568) (by decide +kernel)) rfl
theorem wk_X2_24 : ww_ini RX2 24 wy_X0_init 3 := ⟨wc_X0_init, rfl, wm_567, wm_568, rfl⟩
theorem wm_588 : ww_hd wy_X2_add ∈ ww_GW := ww_gw (List.mem_of_getElem? (i := 588) (by decide +kernel)) rfl
theorem wc_X2_add : ww_cal wy_X2_add 1 := ⟨wm_588, wm_51, ⟨by decide +kernel, by decide +kernel⟩, by decide +kernel, by decide⟩
theorem wm_585 : Cond.methodLink RX2 27 yX2_add ∈ ww_GW := ww_gw (List.mem_of_getElem? (i := 585) (by decide +kernel)) rfl
theorem wm_587 : Cond.instanceMethod yX2_add ∈ ww_GW := ww_gw (List.mem_of_getElem? (i := 587) (by decide +kernel)) rfl
theorem wm_8 : Cond.selects RX2 yX2_add yX2_add ∈ ww_GW := ww_gw (List.mem_of_getElem? (i := 8) (by decide +kernel)) rfl
theorem wk_X2_27 : ww_vir RX2 27 wy_X2_add 1 := ⟨wc_X2_add, rfl, wm_585, wm_587, wm_8⟩
theorem wm_589 : Cond.methodLink RX2 31 yJx4a65c_size_8abf5 ∈ ww_GW := ww_gw (List.mem_of_getElem? (i := 589) (by decide +kernel)) rfl
theorem wk_X2_31 : ww_vir RX2 31 wy_Jx4a65c_size_8abf5 0 := ⟨wc_Jx4a65c_size_8abf5, rfl, wm_589, wm_192, wm_193⟩
theorem wm_590 : Cond.methodLink RX2 35 yJx4a65c_add_9ea2d ∈ ww_GW := ww_gw (List.mem_of_getElem? (i := 590) (by decide +kernel)) rfl
theorem wk_X2_35 : ww_vir RX2 35 wy_Jx4a65c_add_9ea2d 1 := ⟨wc_Jx4a65c_add_9ea2d, rfl, wm_590, wm_441, wm_442⟩
theorem wm_591 : Cond.methodLink RX6 137 yX3_top ∈ ww_GW := ww_gw (List.mem_of_getElem? (i := 591) (by decide +kernel)) rfl
theorem wk_X6_137 : ww_vir RX6 137 wy_X3_top 0 := ⟨wc_X3_top, rfl, wm_591, wm_549, wm_550⟩
theorem wm_595 : ww_hd wy_X6_inside_ ∈ ww_GW := ww_gw (List.mem_of_getElem? (i := 595) (by decide +kernel)) rfl
theorem wc_X6_inside_ : ww_cal wy_X6_inside_ 1 := ⟨wm_595, wm_47, ⟨by decide +kernel, by decide +kernel⟩, by decide +kernel, by decide⟩
theorem wm_592 : Cond.methodLink RX6 144 yX6_inside_ ∈ ww_GW := ww_gw (List.mem_of_getElem? (i := 592) (by decide +kernel)) rfl
theorem wm_594 : Cond.instanceMethod yX6_inside_ ∈ ww_GW := ww_gw (List.mem_of_getElem? (i := 594) (by decide +kernel)) rfl
theorem wm_9 : Cond.selects RX6 yX6_inside_ yX6_inside_ ∈ ww_GW := ww_gw (List.mem_of_getElem? (i := 9) (by decide +kernel)) rfl
theorem wk_X6_144 : ww_vir RX6 144 wy_X6_inside_ 1 := ⟨wc_X6_inside_, rfl, wm_592, wm_594, wm_9⟩
theorem wm_598 : ww_hd wy_L_take ∈ ww_GW := ww_gw (List.mem_of_getElem? (i := 598) (by decide +kernel)) rfl
theorem wc_L_take : ww_cal wy_L_take 3 := ⟨wm_598, wm_46, ⟨by decide +kernel, by decide +kernel⟩, by decide +kernel, by decide⟩
theorem wm_596 : Cond.methodLink RL 132 yL_take ∈ ww_GW := ww_gw (List.mem_of_getElem? (i := 596) (by decide +kernel)) rfl
theorem wm_597 : Cond.static yL_take ∈ ww_GW := ww_gw (List.mem_of_getElem? (i := 597) (by decide +kernel)) rfl
theorem wk_L_132 : ww_sta RL 132 wy_L_take 3 := ⟨wc_L_take, wm_596, wm_597⟩
theorem wm_602 : ww_hd wy_X6_take ∈ ww_GW := ww_gw (List.mem_of_getElem? (i := 602) (by decide +kernel)) rfl
theorem wc_X6_take : ww_cal wy_X6_take 1 := ⟨wm_602, wm_47, ⟨by decide +kernel, by decide +kernel⟩, by decide +kernel, by decide⟩
theorem wm_599 : Cond.methodLink RL 27 yX6_take ∈ ww_GW := ww_gw (List.mem_of_getElem? (i := 599) (by decide +kernel)) rfl
theorem wm_600 : Cond.instanceMethod yX6_take ∈ ww_GW := ww_gw (List.mem_of_getElem? (i := 600) (by decide +kernel)) rfl
theorem wm_601 : Cond.selects RX6 yX6_take yX6_take ∈ ww_GW := ww_gw (List.mem_of_getElem? (i := 601) (by decide +kernel)) rfl
theorem wk_L_27 : ww_vir RL 27 wy_X6_take 1 := ⟨wc_X6_take, rfl, wm_599, wm_600, wm_601⟩
theorem wm_606 : ww_hd wy_L_scrap ∈ ww_GW := ww_gw (List.mem_of_getElem? (i := 606) (by decide +kernel)) rfl
theorem wc_L_scrap : ww_cal wy_L_scrap 2 := ⟨wm_606, wm_46, ⟨by decide +kernel, by decide +kernel⟩, by decide +kernel, by decide⟩
theorem wm_604 : Cond.methodLink RL 136 yL_scrap ∈ ww_GW := ww_gw (List.mem_of_getElem? (i := 604) (by decide +kernel)) rfl
theorem wm_605 : Cond.static yL_scrap ∈ ww_GW := ww_gw (List.mem_of_getElem? (i := 605) (by decide +kernel)) rfl
theorem wk_L_136 : ww_sta RL 136 wy_L_scrap 2 := ⟨wc_L_scrap, wm_604, wm_605⟩
theorem wm_610 : ww_hd wy_X6_scrap ∈ ww_GW := ww_gw (List.mem_of_getElem? (i := 610) (by decide +kernel)) rfl
theorem wc_X6_scrap : ww_cal wy_X6_scrap 1 := ⟨wm_610, wm_47, ⟨by decide +kernel, by decide +kernel⟩, by decide +kernel, by decide⟩
theorem wm_607 : Cond.methodLink RL 31 yX6_scrap ∈ ww_GW := ww_gw (List.mem_of_getElem? (i := 607) (by decide +kernel)) rfl
theorem wm_608 : Cond.instanceMethod yX6_scrap ∈ ww_GW := ww_gw (List.mem_of_getElem? (i := 608) (by decide +kernel)) rfl
theorem wm_609 : Cond.selects RX6 yX6_scrap yX6_scrap ∈ ww_GW := ww_gw (List.mem_of_getElem? (i := 609) (by decide +kernel)) rfl
theorem wk_L_31 : ww_vir RL 31 wy_X6_scrap 1 := ⟨wc_X6_scrap, rfl, wm_607, wm_608, wm_609⟩
theorem wm_615 : ww_hd wy_X5_isWaiting ∈ ww_GW := ww_gw (List.mem_of_getElem? (i := 615) (by decide +kernel)) rfl
theorem wc_X5_isWaiting : ww_cal wy_X5_isWaiting 1 := ⟨wm_615, wm_52, ⟨by decide +kernel, by decide +kernel⟩, by decide +kernel, by decide⟩
theorem wm_612 : Cond.methodLink RX6 154 yX5_isWaiting ∈ ww_GW := ww_gw (List.mem_of_getElem? (i := 612) (by decide +kernel)) rfl
theorem wm_613 : Cond.instanceMethod yX5_isWaiting ∈ ww_GW := ww_gw (List.mem_of_getElem? (i := 613) (by decide +kernel)) rfl
theorem wm_614 : Cond.selects RX5 yX5_isWaiting yX5_isWaiting ∈ ww_GW := ww_gw (List.mem_of_getElem? (i := 614) (by decide +kernel)) rfl
theorem wk_X6_154 : ww_vir RX6 154 wy_X5_isWaiting 1 := ⟨wc_X5_isWaiting, rfl, wm_612, wm_613, wm_614⟩
theorem wm_619 : ww_hd wy_L_run ∈ ww_GW := ww_gw (List.mem_of_getElem? (i := 619) (by decide +kernel)) rfl
theorem wc_L_run : ww_cal wy_L_run 5 := ⟨wm_619, wm_46, ⟨by decide +kernel, by decide +kernel⟩, by decide +kernel, by decide⟩
theorem wm_617 : Cond.methodLink RL 140 yL_run ∈ ww_GW := ww_gw (List.mem_of_getElem? (i := 617) (by decide +kernel)) rfl
theorem wm_618 : Cond.static yL_run ∈ ww_GW := ww_gw (List.mem_of_getElem? (i := 618) (by decide +kernel)) rfl
theorem wk_L_140 : ww_sta RL 140 wy_L_run 5 := ⟨wc_L_run, wm_617, wm_618⟩
theorem wm_623 : ww_hd wy_X6_run ∈ ww_GW := ww_gw (List.mem_of_getElem? (i := 623) (by decide +kernel)) rfl
theorem wc_X6_run : ww_cal wy_X6_run 3 := ⟨wm_623, wm_47, ⟨by decide +kernel, by decide +kernel⟩, by decide +kernel, by decide⟩
theorem wm_620 : Cond.methodLink RL 35 yX6_run ∈ ww_GW := ww_gw (List.mem_of_getElem? (i := 620) (by decide +kernel)) rfl
theorem wm_621 : Cond.instanceMethod yX6_run ∈ ww_GW := ww_gw (List.mem_of_getElem? (i := 621) (by decide +kernel)) rfl
theorem wm_622 : Cond.selects RX6 yX6_run yX6_run ∈ ww_GW := ww_gw (List.mem_of_getElem? (i := 622) (by decide +kernel)) rfl
theorem wk_L_35 : ww_vir RL 35 wy_X6_run 3 := ⟨wc_X6_run, rfl, wm_620, wm_621, wm_622⟩
theorem wm_627 : ww_hd wy_X6_existingTrain ∈ ww_GW := ww_gw (List.mem_of_getElem? (i := 627) (by decide +kernel)) rfl
theorem wc_X6_existingTrain : ww_cal wy_X6_existingTrain 1 := ⟨wm_627, wm_47, ⟨by decide +kernel, by decide +kernel⟩, by decide +kernel, by decide⟩
theorem wm_624 : Cond.methodLink RX6 160 yX6_existingTrain ∈ ww_GW := ww_gw (List.mem_of_getElem? (i := 624) (by decide +kernel)) rfl
theorem wm_626 : Cond.instanceMethod yX6_existingTrain ∈ ww_GW := ww_gw (List.mem_of_getElem? (i := 626) (by decide +kernel)) rfl
theorem wm_10 : Cond.selects RX6 yX6_existingTrain yX6_existingTrain ∈ ww_GW := ww_gw (List.mem_of_getElem? (i := 10) (by decide +kernel)) rfl
theorem wk_X6_160 : ww_vir RX6 160 wy_X6_existingTrain 1 := ⟨wc_X6_existingTrain, rfl, wm_624, wm_626, wm_10⟩
theorem wm_631 : ww_hd wy_X6_checkRun ∈ ww_GW := ww_gw (List.mem_of_getElem? (i := 631) (by decide +kernel)) rfl
theorem wc_X6_checkRun : ww_cal wy_X6_checkRun 2 := ⟨wm_631, wm_47, ⟨by decide +kernel, by decide +kernel⟩, by decide +kernel, by decide⟩
theorem wm_629 : Cond.methodLink RX6 163 yX6_checkRun ∈ ww_GW := ww_gw (List.mem_of_getElem? (i := 629) (by decide +kernel)) rfl
theorem wm_630 : Cond.static yX6_checkRun ∈ ww_GW := ww_gw (List.mem_of_getElem? (i := 630) (by decide +kernel)) rfl
theorem wk_X6_163 : ww_sta RX6 163 wy_X6_checkRun 2 := ⟨wc_X6_checkRun, wm_629, wm_630⟩
theorem wm_637 : ww_hd wy_X2_addRun ∈ ww_GW := ww_gw (List.mem_of_getElem? (i := 637) (by decide +kernel)) rfl
theorem wc_X2_addRun : ww_cal wy_X2_addRun 2 := ⟨wm_637, wm_51, ⟨by decide +kernel, by decide +kernel⟩, by decide +kernel, by decide⟩
theorem wm_634 : Cond.methodLink RX6 168 yX2_addRun ∈ ww_GW := ww_gw (List.mem_of_getElem? (i := 634) (by decide +kernel)) rfl
theorem wm_635 : Cond.instanceMethod yX2_addRun ∈ ww_GW := ww_gw (List.mem_of_getElem? (i := 635) (by decide +kernel)) rfl
theorem wm_636 : Cond.selects RX2 yX2_addRun yX2_addRun ∈ ww_GW := ww_gw (List.mem_of_getElem? (i := 636) (by decide +kernel)) rfl
theorem wk_X6_168 : ww_vir RX6 168 wy_X2_addRun 2 := ⟨wc_X2_addRun, rfl, wm_634, wm_635, wm_636⟩
theorem wm_640 : ww_hd wy_X6_rubbing ∈ ww_GW := ww_gw (List.mem_of_getElem? (i := 640) (by decide +kernel)) rfl
theorem wc_X6_rubbing : ww_cal wy_X6_rubbing 1 := ⟨wm_640, wm_47, ⟨by decide +kernel, by decide +kernel⟩, by decide +kernel, by decide⟩
theorem wm_638 : Cond.methodLink RX6 175 yX6_rubbing ∈ ww_GW := ww_gw (List.mem_of_getElem? (i := 638) (by decide +kernel)) rfl
theorem wm_639 : Cond.static yX6_rubbing ∈ ww_GW := ww_gw (List.mem_of_getElem? (i := 639) (by decide +kernel)) rfl
theorem wk_X6_175 : ww_sta RX6 175 wy_X6_rubbing 1 := ⟨wc_X6_rubbing, wm_638, wm_639⟩
theorem wm_644 : ww_hd wy_X3_runs ∈ ww_GW := ww_gw (List.mem_of_getElem? (i := 644) (by decide +kernel)) rfl
theorem wc_X3_runs : ww_cal wy_X3_runs 2 := ⟨wm_644, wm_60, ⟨by decide +kernel, by decide +kernel⟩, by decide +kernel, by decide⟩
theorem wm_641 : Cond.methodLink RX6 178 yX3_runs ∈ ww_GW := ww_gw (List.mem_of_getElem? (i := 641) (by decide +kernel)) rfl
theorem wm_642 : Cond.instanceMethod yX3_runs ∈ ww_GW := ww_gw (List.mem_of_getElem? (i := 642) (by decide +kernel)) rfl
theorem wm_643 : Cond.selects RX3 yX3_runs yX3_runs ∈ ww_GW := ww_gw (List.mem_of_getElem? (i := 643) (by decide +kernel)) rfl
theorem wk_X6_178 : ww_vir RX6 178 wy_X3_runs 2 := ⟨wc_X3_runs, rfl, wm_641, wm_642, wm_643⟩
theorem wm_648 : ww_hd wy_X4_wear ∈ ww_GW := ww_gw (List.mem_of_getElem? (i := 648) (by decide +kernel)) rfl
theorem wc_X4_wear : ww_cal wy_X4_wear 2 := ⟨wm_648, wm_61, ⟨by decide +kernel, by decide +kernel⟩, by decide +kernel, by decide⟩
theorem wm_645 : Cond.methodLink RX3 67 yX4_wear ∈ ww_GW := ww_gw (List.mem_of_getElem? (i := 645) (by decide +kernel)) rfl
theorem wm_646 : Cond.instanceMethod yX4_wear ∈ ww_GW := ww_gw (List.mem_of_getElem? (i := 646) (by decide +kernel)) rfl
theorem wm_647 : Cond.selects RX4 yX4_wear yX4_wear ∈ ww_GW := ww_gw (List.mem_of_getElem? (i := 647) (by decide +kernel)) rfl
theorem wk_X3_67 : ww_vir RX3 67 wy_X4_wear 2 := ⟨wc_X4_wear, rfl, wm_645, wm_646, wm_647⟩
theorem wm_652 : ww_hd wy_X3_growFlaw ∈ ww_GW := ww_gw (List.mem_of_getElem? (i := 652) (by decide +kernel)) rfl
theorem wc_X3_growFlaw : ww_cal wy_X3_growFlaw 1 := ⟨wm_652, wm_60, ⟨by decide +kernel, by decide +kernel⟩, by decide +kernel, by decide⟩
theorem wm_649 : Cond.methodLink RX3 77 yX3_growFlaw ∈ ww_GW := ww_gw (List.mem_of_getElem? (i := 649) (by decide +kernel)) rfl
theorem wm_651 : Cond.instanceMethod yX3_growFlaw ∈ ww_GW := ww_gw (List.mem_of_getElem? (i := 651) (by decide +kernel)) rfl
theorem wm_11 : Cond.selects RX3 yX3_growFlaw yX3_growFlaw ∈ ww_GW := ww_gw (List.mem_of_getElem? (i := 11) (by decide +kernel)) rfl
theorem wk_X3_77 : ww_vir RX3 77 wy_X3_growFlaw 1 := ⟨wc_X3_growFlaw, rfl, wm_649, wm_651, wm_11⟩
theorem wm_656 : ww_hd wy_X6_quarantineTree ∈ ww_GW := ww_gw (List.mem_of_getElem? (i := 656) (by decide +kernel)) rfl
theorem wc_X6_quarantineTree : ww_cal wy_X6_quarantineTree 1 := ⟨wm_656, wm_47, ⟨by decide +kernel, by decide +kernel⟩, by decide +kernel, by decide⟩
theorem wm_653 : Cond.methodLink RX6 184 yX6_quarantineTree ∈ ww_GW := ww_gw (List.mem_of_getElem? (i := 653) (by decide +kernel)) rfl
theorem wm_655 : Cond.instanceMethod yX6_quarantineTree ∈ ww_GW := ww_gw (List.mem_of_getElem? (i := 655) (by decide +kernel)) rfl
theorem wm_12 : Cond.selects RX6 yX6_quarantineTree yX6_quarantineTree ∈ ww_GW := ww_gw (List.mem_of_getElem? (i := 12) (by decide +kernel)) rfl
theorem wk_X6_184 : ww_vir RX6 184 wy_X6_quarantineTree 1 := ⟨wc_X6_quarantineTree, rfl, wm_653, wm_655, wm_12⟩
theorem wm_659 : ww_hd wy_L_turn ∈ ww_GW := ww_gw (List.mem_of_getElem? (i := 659) (by decide +kernel)) rfl
theorem wc_L_turn : ww_cal wy_L_turn 3 := ⟨wm_659, wm_46, ⟨by decide +kernel, by decide +kernel⟩, by decide +kernel, by decide⟩
theorem wm_657 : Cond.methodLink RL 143 yL_turn ∈ ww_GW := ww_gw (List.mem_of_getElem? (i := 657) (by decide +kernel)) rfl
theorem wm_658 : Cond.static yL_turn ∈ ww_GW := ww_gw (List.mem_of_getElem? (i := 658) (by decide +kernel)) rfl
theorem wk_L_143 : ww_sta RL 143 wy_L_turn 3 := ⟨wc_L_turn, wm_657, wm_658⟩
theorem wm_663 : ww_hd wy_X6_turn ∈ ww_GW := ww_gw (List.mem_of_getElem? (i := 663) (by decide +kernel)) rfl
theorem wc_X6_turn : ww_cal wy_X6_turn 1 := ⟨wm_663, wm_47, ⟨by decide +kernel, by decide +kernel⟩, by decide +kernel, by decide⟩
theorem wm_660 : Cond.methodLink RL 38 yX6_turn ∈ ww_GW := ww_gw (List.mem_of_getElem? (i := 660) (by decide +kernel)) rfl
theorem wm_661 : Cond.instanceMethod yX6_turn ∈ ww_GW := ww_gw (List.mem_of_getElem? (i := 661) (by decide +kernel)) rfl
theorem wm_662 : Cond.selects RX6 yX6_turn yX6_turn ∈ ww_GW := ww_gw (List.mem_of_getElem? (i := 662) (by decide +kernel)) rfl
theorem wk_L_38 : ww_vir RL 38 wy_X6_turn 1 := ⟨wc_X6_turn, rfl, wm_660, wm_661, wm_662⟩
theorem wm_668 : ww_hd wy_X6_wheelIn ∈ ww_GW := ww_gw (List.mem_of_getElem? (i := 668) (by decide +kernel)) rfl
theorem wc_X6_wheelIn : ww_cal wy_X6_wheelIn 2 := ⟨wm_668, wm_47, ⟨by decide +kernel, by decide +kernel⟩, by decide +kernel, by decide⟩
theorem wm_665 : Cond.methodLink RX6 190 yX6_wheelIn ∈ ww_GW := ww_gw (List.mem_of_getElem? (i := 665) (by decide +kernel)) rfl
theorem wm_667 : Cond.instanceMethod yX6_wheelIn ∈ ww_GW := ww_gw (List.mem_of_getElem? (i := 667) (by decide +kernel)) rfl
theorem wm_13 : Cond.selects RX6 yX6_wheelIn yX6_wheelIn ∈ ww_GW := ww_gw (List.mem_of_getElem? (i := 13) (by decide +kernel)) rfl
theorem wk_X6_190 : ww_vir RX6 190 wy_X6_wheelIn 2 := ⟨wc_X6_wheelIn, rfl, wm_665, wm_667, wm_13⟩
theorem wm_673 : ww_hd wy_X4_renewFlange ∈ ww_GW := ww_gw (List.mem_of_getElem? (i := 673) (by decide +kernel)) rfl
theorem wc_X4_renewFlange : ww_cal wy_X4_renewFlange 0 := ⟨wm_673, wm_61, ⟨by decide +kernel, by decide +kernel⟩, by decide +kernel, by decide⟩
theorem wm_670 : Cond.methodLink RX6 201 yX4_renewFlange ∈ ww_GW := ww_gw (List.mem_of_getElem? (i := 670) (by decide +kernel)) rfl
theorem wm_671 : Cond.instanceMethod yX4_renewFlange ∈ ww_GW := ww_gw (List.mem_of_getElem? (i := 671) (by decide +kernel)) rfl
theorem wm_672 : Cond.selects RX4 yX4_renewFlange yX4_renewFlange ∈ ww_GW := ww_gw (List.mem_of_getElem? (i := 672) (by decide +kernel)) rfl
theorem wk_X6_201 : ww_vir RX6 201 wy_X4_renewFlange 0 := ⟨wc_X4_renewFlange, rfl, wm_670, wm_671, wm_672⟩
theorem wm_674 : Cond.methodLink RX6 204 yJ9_min_7cf53 ∈ ww_GW := ww_gw (List.mem_of_getElem? (i := 674) (by decide +kernel)) rfl
theorem wk_X6_204 : ww_sta RX6 204 wy_J9_min_7cf53 2 := ⟨wc_J9_min_7cf53, wm_674, wm_237⟩
theorem wm_677 : ww_hd wy_L_gate ∈ ww_GW := ww_gw (List.mem_of_getElem? (i := 677) (by decide +kernel)) rfl
theorem wc_L_gate : ww_cal wy_L_gate 4 := ⟨wm_677, wm_46, ⟨by decide +kernel, by decide +kernel⟩, by decide +kernel, by decide⟩
theorem wm_675 : Cond.methodLink RL 146 yL_gate ∈ ww_GW := ww_gw (List.mem_of_getElem? (i := 675) (by decide +kernel)) rfl
theorem wm_676 : Cond.static yL_gate ∈ ww_GW := ww_gw (List.mem_of_getElem? (i := 676) (by decide +kernel)) rfl
theorem wk_L_146 : ww_sta RL 146 wy_L_gate 4 := ⟨wc_L_gate, wm_675, wm_676⟩
theorem wm_681 : ww_hd wy_X6_gate ∈ ww_GW := ww_gw (List.mem_of_getElem? (i := 681) (by decide +kernel)) rfl
theorem wc_X6_gate : ww_cal wy_X6_gate 2 := ⟨wm_681, wm_47, ⟨by decide +kernel, by decide +kernel⟩, by decide +kernel, by decide⟩
theorem wm_678 : Cond.methodLink RL 41 yX6_gate ∈ ww_GW := ww_gw (List.mem_of_getElem? (i := 678) (by decide +kernel)) rfl
theorem wm_679 : Cond.instanceMethod yX6_gate ∈ ww_GW := ww_gw (List.mem_of_getElem? (i := 679) (by decide +kernel)) rfl
theorem wm_680 : Cond.selects RX6 yX6_gate yX6_gate ∈ ww_GW := ww_gw (List.mem_of_getElem? (i := 680) (by decide +kernel)) rfl
theorem wk_L_41 : ww_vir RL 41 wy_X6_gate 2 := ⟨wc_X6_gate, rfl, wm_678, wm_679, wm_680⟩
theorem wm_685 : ww_hd wy_X6_existingWheel ∈ ww_GW := ww_gw (List.mem_of_getElem? (i := 685) (by decide +kernel)) rfl
theorem wc_X6_existingWheel : ww_cal wy_X6_existingWheel 1 := ⟨wm_685, wm_47, ⟨by decide +kernel, by decide +kernel⟩, by decide +kernel, by decide⟩
theorem wm_682 : Cond.methodLink RX6 207 yX6_existingWheel ∈ ww_GW := ww_gw (List.mem_of_getElem? (i := 682) (by decide +kernel)) rfl
theorem wm_684 : Cond.instanceMethod yX6_existingWheel ∈ ww_GW := ww_gw (List.mem_of_getElem? (i := 684) (by decide +kernel)) rfl
theorem wm_14 : Cond.selects RX6 yX6_existingWheel yX6_existingWheel ∈ ww_GW := ww_gw (List.mem_of_getElem? (i := 14) (by decide +kernel)) rfl
theorem wk_X6_207 : ww_vir RX6 207 wy_X6_existingWheel 1 := ⟨wc_X6_existingWheel, rfl, wm_682, wm_684, wm_14⟩
theorem wm_690 : ww_hd wy_L_examine ∈ ww_GW := ww_gw (List.mem_of_getElem? (i := 690) (by decide +kernel)) rfl
theorem wc_L_examine : ww_cal wy_L_examine 3 := ⟨wm_690, wm_46, ⟨by decide +kernel, by decide +kernel⟩, by decide +kernel, by decide⟩
theorem wm_688 : Cond.methodLink RL 149 yL_examine ∈ ww_GW := ww_gw (List.mem_of_getElem? (i := 688) (by decide +kernel)) rfl
theorem wm_689 : Cond.static yL_examine ∈ ww_GW := ww_gw (List.mem_of_getElem? (i := 689) (by decide +kernel)) rfl
theorem wk_L_149 : ww_sta RL 149 wy_L_examine 3 := ⟨wc_L_examine, wm_688, wm_689⟩
theorem wm_694 : ww_hd wy_X6_examine ∈ ww_GW := ww_gw (List.mem_of_getElem? (i := 694) (by decide +kernel)) rfl
theorem wc_X6_examine : ww_cal wy_X6_examine 1 := ⟨wm_694, wm_47, ⟨by decide +kernel, by decide +kernel⟩, by decide +kernel, by decide⟩
theorem wm_691 : Cond.methodLink RL 44 yX6_examine ∈ ww_GW := ww_gw (List.mem_of_getElem? (i := 691) (by decide +kernel)) rfl
theorem wm_692 : Cond.instanceMethod yX6_examine ∈ ww_GW := ww_gw (List.mem_of_getElem? (i := 692) (by decide +kernel)) rfl
theorem wm_693 : Cond.selects RX6 yX6_examine yX6_examine ∈ ww_GW := ww_gw (List.mem_of_getElem? (i := 693) (by decide +kernel)) rfl
theorem wk_L_44 : ww_vir RL 44 wy_X6_examine 1 := ⟨wc_X6_examine, rfl, wm_691, wm_692, wm_693⟩
theorem wm_698 : ww_hd wy_X3_mayBeExamined ∈ ww_GW := ww_gw (List.mem_of_getElem? (i := 698) (by decide +kernel)) rfl
theorem wc_X3_mayBeExamined : ww_cal wy_X3_mayBeExamined 0 := ⟨wm_698, wm_60, ⟨by decide +kernel, by decide +kernel⟩, by decide +kernel, by decide⟩
theorem wm_695 : Cond.methodLink RX6 219 yX3_mayBeExamined ∈ ww_GW := ww_gw (List.mem_of_getElem? (i := 695) (by decide +kernel)) rfl
theorem wm_696 : Cond.instanceMethod yX3_mayBeExamined ∈ ww_GW := ww_gw (List.mem_of_getElem? (i := 696) (by decide +kernel)) rfl
theorem wm_697 : Cond.selects RX3 yX3_mayBeExamined yX3_mayBeExamined ∈ ww_GW := ww_gw (List.mem_of_getElem? (i := 697) (by decide +kernel)) rfl
theorem wk_X6_219 : ww_vir RX6 219 wy_X3_mayBeExamined 0 := ⟨wc_X3_mayBeExamined, rfl, wm_695, wm_696, wm_697⟩
theorem wm_702 : ww_hd wy_L_waive ∈ ww_GW := ww_gw (List.mem_of_getElem? (i := 702) (by decide +kernel)) rfl
theorem wc_L_waive : ww_cal wy_L_waive 3 := ⟨wm_702, wm_46, ⟨by decide +kernel, by decide +kernel⟩, by decide +kernel, by decide⟩
theorem wm_700 : Cond.methodLink RL 152 yL_waive ∈ ww_GW := ww_gw (List.mem_of_getElem? (i := 700) (by decide +kernel)) rfl
theorem wm_701 : Cond.static yL_waive ∈ ww_GW := ww_gw (List.mem_of_getElem? (i := 701) (by decide +kernel)) rfl
theorem wk_L_152 : ww_sta RL 152 wy_L_waive 3 := ⟨wc_L_waive, wm_700, wm_701⟩
theorem wm_706 : ww_hd wy_X6_waive ∈ ww_GW := ww_gw (List.mem_of_getElem? (i := 706) (by decide +kernel)) rfl
theorem wc_X6_waive : ww_cal wy_X6_waive 2 := ⟨wm_706, wm_47, ⟨by decide +kernel, by decide +kernel⟩, by decide +kernel, by decide⟩
theorem wm_703 : Cond.methodLink RL 47 yX6_waive ∈ ww_GW := ww_gw (List.mem_of_getElem? (i := 703) (by decide +kernel)) rfl
theorem wm_704 : Cond.instanceMethod yX6_waive ∈ ww_GW := ww_gw (List.mem_of_getElem? (i := 704) (by decide +kernel)) rfl
theorem wm_705 : Cond.selects RX6 yX6_waive yX6_waive ∈ ww_GW := ww_gw (List.mem_of_getElem? (i := 705) (by decide +kernel)) rfl
theorem wk_L_47 : ww_vir RL 47 wy_X6_waive 2 := ⟨wc_X6_waive, rfl, wm_703, wm_704, wm_705⟩
theorem wm_711 : ww_hd wy_L_flaw ∈ ww_GW := ww_gw (List.mem_of_getElem? (i := 711) (by decide +kernel)) rfl
theorem wc_L_flaw : ww_cal wy_L_flaw 4 := ⟨wm_711, wm_46, ⟨by decide +kernel, by decide +kernel⟩, by decide +kernel, by decide⟩
theorem wm_709 : Cond.methodLink RL 156 yL_flaw ∈ ww_GW := ww_gw (List.mem_of_getElem? (i := 709) (by decide +kernel)) rfl
theorem wm_710 : Cond.static yL_flaw ∈ ww_GW := ww_gw (List.mem_of_getElem? (i := 710) (by decide +kernel)) rfl
theorem wk_L_156 : ww_sta RL 156 wy_L_flaw 4 := ⟨wc_L_flaw, wm_709, wm_710⟩
theorem wm_715 : ww_hd wy_X6_flaw ∈ ww_GW := ww_gw (List.mem_of_getElem? (i := 715) (by decide +kernel)) rfl
theorem wc_X6_flaw : ww_cal wy_X6_flaw 2 := ⟨wm_715, wm_47, ⟨by decide +kernel, by decide +kernel⟩, by decide +kernel, by decide⟩
theorem wm_712 : Cond.methodLink RL 51 yX6_flaw ∈ ww_GW := ww_gw (List.mem_of_getElem? (i := 712) (by decide +kernel)) rfl
theorem wm_713 : Cond.instanceMethod yX6_flaw ∈ ww_GW := ww_gw (List.mem_of_getElem? (i := 713) (by decide +kernel)) rfl
theorem wm_714 : Cond.selects RX6 yX6_flaw yX6_flaw ∈ ww_GW := ww_gw (List.mem_of_getElem? (i := 714) (by decide +kernel)) rfl
theorem wk_L_51 : ww_vir RL 51 wy_X6_flaw 2 := ⟨wc_X6_flaw, rfl, wm_712, wm_713, wm_714⟩
theorem wm_720 : ww_hd wy_L_look ∈ ww_GW := ww_gw (List.mem_of_getElem? (i := 720) (by decide +kernel)) rfl
theorem wc_L_look : ww_cal wy_L_look 4 := ⟨wm_720, wm_46, ⟨by decide +kernel, by decide +kernel⟩, by decide +kernel, by decide⟩
theorem wm_718 : Cond.methodLink RL 159 yL_look ∈ ww_GW := ww_gw (List.mem_of_getElem? (i := 718) (by decide +kernel)) rfl
theorem wm_719 : Cond.static yL_look ∈ ww_GW := ww_gw (List.mem_of_getElem? (i := 719) (by decide +kernel)) rfl
theorem wk_L_159 : ww_sta RL 159 wy_L_look 4 := ⟨wc_L_look, wm_718, wm_719⟩
theorem wm_724 : ww_hd wy_X6_look ∈ ww_GW := ww_gw (List.mem_of_getElem? (i := 724) (by decide +kernel)) rfl
theorem wc_X6_look : ww_cal wy_X6_look 2 := ⟨wm_724, wm_47, ⟨by decide +kernel, by decide +kernel⟩, by decide +kernel, by decide⟩
theorem wm_721 : Cond.methodLink RL 54 yX6_look ∈ ww_GW := ww_gw (List.mem_of_getElem? (i := 721) (by decide +kernel)) rfl
theorem wm_722 : Cond.instanceMethod yX6_look ∈ ww_GW := ww_gw (List.mem_of_getElem? (i := 722) (by decide +kernel)) rfl
theorem wm_723 : Cond.selects RX6 yX6_look yX6_look ∈ ww_GW := ww_gw (List.mem_of_getElem? (i := 723) (by decide +kernel)) rfl
theorem wk_L_54 : ww_vir RL 54 wy_X6_look 2 := ⟨wc_X6_look, rfl, wm_721, wm_722, wm_723⟩
theorem wm_728 : ww_hd wy_L_clear ∈ ww_GW := ww_gw (List.mem_of_getElem? (i := 728) (by decide +kernel)) rfl
theorem wc_L_clear : ww_cal wy_L_clear 3 := ⟨wm_728, wm_46, ⟨by decide +kernel, by decide +kernel⟩, by decide +kernel, by decide⟩
theorem wm_726 : Cond.methodLink RL 163 yL_clear ∈ ww_GW := ww_gw (List.mem_of_getElem? (i := 726) (by decide +kernel)) rfl
theorem wm_727 : Cond.static yL_clear ∈ ww_GW := ww_gw (List.mem_of_getElem? (i := 727) (by decide +kernel)) rfl
theorem wk_L_163 : ww_sta RL 163 wy_L_clear 3 := ⟨wc_L_clear, wm_726, wm_727⟩
theorem wm_732 : ww_hd wy_X6_clear ∈ ww_GW := ww_gw (List.mem_of_getElem? (i := 732) (by decide +kernel)) rfl
theorem wc_X6_clear : ww_cal wy_X6_clear 1 := ⟨wm_732, wm_47, ⟨by decide +kernel, by decide +kernel⟩, by decide +kernel, by decide⟩
theorem wm_729 : Cond.methodLink RL 58 yX6_clear ∈ ww_GW := ww_gw (List.mem_of_getElem? (i := 729) (by decide +kernel)) rfl
theorem wm_730 : Cond.instanceMethod yX6_clear ∈ ww_GW := ww_gw (List.mem_of_getElem? (i := 730) (by decide +kernel)) rfl
theorem wm_731 : Cond.selects RX6 yX6_clear yX6_clear ∈ ww_GW := ww_gw (List.mem_of_getElem? (i := 731) (by decide +kernel)) rfl
theorem wk_L_58 : ww_vir RL 58 wy_X6_clear 1 := ⟨wc_X6_clear, rfl, wm_729, wm_730, wm_731⟩
theorem wm_736 : ww_hd wy_L_recall ∈ ww_GW := ww_gw (List.mem_of_getElem? (i := 736) (by decide +kernel)) rfl
theorem wc_L_recall : ww_cal wy_L_recall 3 := ⟨wm_736, wm_46, ⟨by decide +kernel, by decide +kernel⟩, by decide +kernel, by decide⟩
theorem wm_734 : Cond.methodLink RL 166 yL_recall ∈ ww_GW := ww_gw (List.mem_of_getElem? (i := 734) (by decide +kernel)) rfl
theorem wm_735 : Cond.static yL_recall ∈ ww_GW := ww_gw (List.mem_of_getElem? (i := 735) (by decide +kernel)) rfl
theorem wk_L_166 : ww_sta RL 166 wy_L_recall 3 := ⟨wc_L_recall, wm_734, wm_735⟩
theorem wm_740 : ww_hd wy_X6_recall ∈ ww_GW := ww_gw (List.mem_of_getElem? (i := 740) (by decide +kernel)) rfl
theorem wc_X6_recall : ww_cal wy_X6_recall 1 := ⟨wm_740, wm_47, ⟨by decide +kernel, by decide +kernel⟩, by decide +kernel, by decide⟩
theorem wm_737 : Cond.methodLink RL 61 yX6_recall ∈ ww_GW := ww_gw (List.mem_of_getElem? (i := 737) (by decide +kernel)) rfl
theorem wm_738 : Cond.instanceMethod yX6_recall ∈ ww_GW := ww_gw (List.mem_of_getElem? (i := 738) (by decide +kernel)) rfl
theorem wm_739 : Cond.selects RX6 yX6_recall yX6_recall ∈ ww_GW := ww_gw (List.mem_of_getElem? (i := 739) (by decide +kernel)) rfl
theorem wk_L_61 : ww_vir RL 61 wy_X6_recall 1 := ⟨wc_X6_recall, rfl, wm_737, wm_738, wm_739⟩
theorem wm_744 : ww_hd wy_L_release ∈ ww_GW := ww_gw (List.mem_of_getElem? (i := 744) (by decide +kernel)) rfl
theorem wc_L_release : ww_cal wy_L_release 3 := ⟨wm_744, wm_46, ⟨by decide +kernel, by decide +kernel⟩, by decide +kernel, by decide⟩
theorem wm_742 : Cond.methodLink RL 169 yL_release ∈ ww_GW := ww_gw (List.mem_of_getElem? (i := 742) (by decide +kernel)) rfl
theorem wm_743 : Cond.static yL_release ∈ ww_GW := ww_gw (List.mem_of_getElem? (i := 743) (by decide +kernel)) rfl
theorem wk_L_169 : ww_sta RL 169 wy_L_release 3 := ⟨wc_L_release, wm_742, wm_743⟩
theorem wm_748 : ww_hd wy_X6_release ∈ ww_GW := ww_gw (List.mem_of_getElem? (i := 748) (by decide +kernel)) rfl
theorem wc_X6_release : ww_cal wy_X6_release 1 := ⟨wm_748, wm_47, ⟨by decide +kernel, by decide +kernel⟩, by decide +kernel, by decide⟩
theorem wm_745 : Cond.methodLink RL 64 yX6_release ∈ ww_GW := ww_gw (List.mem_of_getElem? (i := 745) (by decide +kernel)) rfl
theorem wm_746 : Cond.instanceMethod yX6_release ∈ ww_GW := ww_gw (List.mem_of_getElem? (i := 746) (by decide +kernel)) rfl
theorem wm_747 : Cond.selects RX6 yX6_release yX6_release ∈ ww_GW := ww_gw (List.mem_of_getElem? (i := 747) (by decide +kernel)) rfl
theorem wk_L_64 : ww_vir RL 64 wy_X6_release 1 := ⟨wc_X6_release, rfl, wm_745, wm_746, wm_747⟩
theorem wm_752 : ww_hd wy_X6_firstBar ∈ ww_GW := ww_gw (List.mem_of_getElem? (i := 752) (by decide +kernel)) rfl
theorem wc_X6_firstBar : ww_cal wy_X6_firstBar 1 := ⟨wm_752, wm_47, ⟨by decide +kernel, by decide +kernel⟩, by decide +kernel, by decide⟩
theorem wm_749 : Cond.methodLink RX6 258 yX6_firstBar ∈ ww_GW := ww_gw (List.mem_of_getElem? (i := 749) (by decide +kernel)) rfl
theorem wm_751 : Cond.instanceMethod yX6_firstBar ∈ ww_GW := ww_gw (List.mem_of_getElem? (i := 751) (by decide +kernel)) rfl
theorem wm_15 : Cond.selects RX6 yX6_firstBar yX6_firstBar ∈ ww_GW := ww_gw (List.mem_of_getElem? (i := 15) (by decide +kernel)) rfl
theorem wk_X6_258 : ww_vir RX6 258 wy_X6_firstBar 1 := ⟨wc_X6_firstBar, rfl, wm_749, wm_751, wm_15⟩
theorem wm_756 : ww_hd wy_X6_lowestBarring ∈ ww_GW := ww_gw (List.mem_of_getElem? (i := 756) (by decide +kernel)) rfl
theorem wc_X6_lowestBarring : ww_cal wy_X6_lowestBarring 2 := ⟨wm_756, wm_47, ⟨by decide +kernel, by decide +kernel⟩, by decide +kernel, by decide⟩
theorem wm_753 : Cond.methodLink RX6 323 yX6_lowestBarring ∈ ww_GW := ww_gw (List.mem_of_getElem? (i := 753) (by decide +kernel)) rfl
theorem wm_755 : Cond.instanceMethod yX6_lowestBarring ∈ ww_GW := ww_gw (List.mem_of_getElem? (i := 755) (by decide +kernel)) rfl
theorem wm_16 : Cond.selects RX6 yX6_lowestBarring yX6_lowestBarring ∈ ww_GW := ww_gw (List.mem_of_getElem? (i := 16) (by decide +kernel)) rfl
theorem wk_X6_323 : ww_vir RX6 323 wy_X6_lowestBarring 2 := ⟨wc_X6_lowestBarring, rfl, wm_753, wm_755, wm_16⟩
theorem wm_760 : ww_hd wy_X6_isSo ∈ ww_GW := ww_gw (List.mem_of_getElem? (i := 760) (by decide +kernel)) rfl
theorem wc_X6_isSo : ww_cal wy_X6_isSo 2 := ⟨wm_760, wm_47, ⟨by decide +kernel, by decide +kernel⟩, by decide +kernel, by decide⟩
theorem wm_757 : Cond.methodLink RX6 351 yX6_isSo ∈ ww_GW := ww_gw (List.mem_of_getElem? (i := 757) (by decide +kernel)) rfl
theorem wm_759 : Cond.instanceMethod yX6_isSo ∈ ww_GW := ww_gw (List.mem_of_getElem? (i := 759) (by decide +kernel)) rfl
theorem wm_17 : Cond.selects RX6 yX6_isSo yX6_isSo ∈ ww_GW := ww_gw (List.mem_of_getElem? (i := 17) (by decide +kernel)) rfl
theorem wk_X6_351 : ww_vir RX6 351 wy_X6_isSo 2 := ⟨wc_X6_isSo, rfl, wm_757, wm_759, wm_17⟩
theorem wm_764 : ww_hd wy_X6_hasEmptyPlace ∈ ww_GW := ww_gw (List.mem_of_getElem? (i := 764) (by decide +kernel)) rfl
theorem wc_X6_hasEmptyPlace : ww_cal wy_X6_hasEmptyPlace 1 := ⟨wm_764, wm_47, ⟨by decide +kernel, by decide +kernel⟩, by decide +kernel, by decide⟩
theorem wm_761 : Cond.methodLink RX6 355 yX6_hasEmptyPlace ∈ ww_GW := ww_gw (List.mem_of_getElem? (i := 761) (by decide +kernel)) rfl
theorem wm_763 : Cond.instanceMethod yX6_hasEmptyPlace ∈ ww_GW := ww_gw (List.mem_of_getElem? (i := 763) (by decide +kernel)) rfl
theorem wm_18 : Cond.selects RX6 yX6_hasEmptyPlace yX6_hasEmptyPlace ∈ ww_GW := ww_gw (List.mem_of_getElem? (i := 18) (by decide +kernel)) rfl
theorem wk_X6_355 : ww_vir RX6 355 wy_X6_hasEmptyPlace 1 := ⟨wc_X6_hasEmptyPlace, rfl, wm_761, wm_763, wm_18⟩
theorem wm_768 : ww_hd wy_X4_isWorn ∈ ww_GW := ww_gw (List.mem_of_getElem? (i := 768) (by decide +kernel)) rfl
theorem wc_X4_isWorn : ww_cal wy_X4_isWorn 0 := ⟨wm_768, wm_61, ⟨by decide +kernel, by decide +kernel⟩, by decide +kernel, by decide⟩
theorem wm_765 : Cond.methodLink RX6 358 yX4_isWorn ∈ ww_GW := ww_gw (List.mem_of_getElem? (i := 765) (by decide +kernel)) rfl
theorem wm_766 : Cond.instanceMethod yX4_isWorn ∈ ww_GW := ww_gw (List.mem_of_getElem? (i := 766) (by decide +kernel)) rfl
theorem wm_767 : Cond.selects RX4 yX4_isWorn yX4_isWorn ∈ ww_GW := ww_gw (List.mem_of_getElem? (i := 767) (by decide +kernel)) rfl
theorem wk_X6_358 : ww_vir RX6 358 wy_X4_isWorn 0 := ⟨wc_X4_isWorn, rfl, wm_765, wm_766, wm_767⟩
theorem wm_772 : ww_hd wy_X6_isApart ∈ ww_GW := ww_gw (List.mem_of_getElem? (i := 772) (by decide +kernel)) rfl
theorem wc_X6_isApart : ww_cal wy_X6_isApart 1 := ⟨wm_772, wm_47, ⟨by decide +kernel, by decide +kernel⟩, by decide +kernel, by decide⟩
theorem wm_769 : Cond.methodLink RX6 361 yX6_isApart ∈ ww_GW := ww_gw (List.mem_of_getElem? (i := 769) (by decide +kernel)) rfl
theorem wm_771 : Cond.instanceMethod yX6_isApart ∈ ww_GW := ww_gw (List.mem_of_getElem? (i := 771) (by decide +kernel)) rfl
theorem wm_19 : Cond.selects RX6 yX6_isApart yX6_isApart ∈ ww_GW := ww_gw (List.mem_of_getElem? (i := 19) (by decide +kernel)) rfl
theorem wk_X6_361 : ww_vir RX6 361 wy_X6_isApart 1 := ⟨wc_X6_isApart, rfl, wm_769, wm_771, wm_19⟩
theorem wm_776 : ww_hd wy_X6_spreadIn ∈ ww_GW := ww_gw (List.mem_of_getElem? (i := 776) (by decide +kernel)) rfl
theorem wc_X6_spreadIn : ww_cal wy_X6_spreadIn 1 := ⟨wm_776, wm_47, ⟨by decide +kernel, by decide +kernel⟩, by decide +kernel, by decide⟩
theorem wm_773 : Cond.methodLink RX6 367 yX6_spreadIn ∈ ww_GW := ww_gw (List.mem_of_getElem? (i := 773) (by decide +kernel)) rfl
theorem wm_775 : Cond.instanceMethod yX6_spreadIn ∈ ww_GW := ww_gw (List.mem_of_getElem? (i := 775) (by decide +kernel)) rfl
theorem wm_20 : Cond.selects RX6 yX6_spreadIn yX6_spreadIn ∈ ww_GW := ww_gw (List.mem_of_getElem? (i := 20) (by decide +kernel)) rfl
theorem wk_X6_367 : ww_vir RX6 367 wy_X6_spreadIn 1 := ⟨wc_X6_spreadIn, rfl, wm_773, wm_775, wm_20⟩
theorem wm_780 : ww_hd wy_X3_isWithin ∈ ww_GW := ww_gw (List.mem_of_getElem? (i := 780) (by decide +kernel)) rfl
theorem wc_X3_isWithin : ww_cal wy_X3_isWithin 1 := ⟨wm_780, wm_60, ⟨by decide +kernel, by decide +kernel⟩, by decide +kernel, by decide⟩
theorem wm_777 : Cond.methodLink RX6 370 yX3_isWithin ∈ ww_GW := ww_gw (List.mem_of_getElem? (i := 777) (by decide +kernel)) rfl
theorem wm_778 : Cond.instanceMethod yX3_isWithin ∈ ww_GW := ww_gw (List.mem_of_getElem? (i := 778) (by decide +kernel)) rfl
theorem wm_779 : Cond.selects RX3 yX3_isWithin yX3_isWithin ∈ ww_GW := ww_gw (List.mem_of_getElem? (i := 779) (by decide +kernel)) rfl
theorem wk_X6_370 : ww_vir RX6 370 wy_X3_isWithin 1 := ⟨wc_X3_isWithin, rfl, wm_777, wm_778, wm_779⟩
theorem wm_781 : Cond.methodLink RX6 320 yJ9_max_7cf53 ∈ ww_GW := ww_gw (List.mem_of_getElem? (i := 781) (by decide +kernel)) rfl
theorem wk_X6_320 : ww_sta RX6 320 wy_J9_max_7cf53 2 := ⟨wc_J9_max_7cf53, wm_781, wm_460⟩
theorem wm_785 : ww_hd wy_X3_isExaminationDue ∈ ww_GW := ww_gw (List.mem_of_getElem? (i := 785) (by decide +kernel)) rfl
theorem wc_X3_isExaminationDue : ww_cal wy_X3_isExaminationDue 0 := ⟨wm_785, wm_60, ⟨by decide +kernel, by decide +kernel⟩, by decide +kernel, by decide⟩
theorem wm_782 : Cond.methodLink RX6 364 yX3_isExaminationDue ∈ ww_GW := ww_gw (List.mem_of_getElem? (i := 782) (by decide +kernel)) rfl
theorem wm_783 : Cond.instanceMethod yX3_isExaminationDue ∈ ww_GW := ww_gw (List.mem_of_getElem? (i := 783) (by decide +kernel)) rfl
theorem wm_784 : Cond.selects RX3 yX3_isExaminationDue yX3_isExaminationDue ∈ ww_GW := ww_gw (List.mem_of_getElem? (i := 784) (by decide +kernel)) rfl
theorem wk_X6_364 : ww_vir RX6 364 wy_X3_isExaminationDue 0 := ⟨wc_X3_isExaminationDue, rfl, wm_782, wm_783, wm_784⟩
theorem wm_788 : ww_hd wy_L_comes ∈ ww_GW := ww_gw (List.mem_of_getElem? (i := 788) (by decide +kernel)) rfl
theorem wc_L_comes : ww_cal wy_L_comes 4 := ⟨wm_788, wm_46, ⟨by decide +kernel, by decide +kernel⟩, by decide +kernel, by decide⟩
theorem wm_786 : Cond.methodLink RL 172 yL_comes ∈ ww_GW := ww_gw (List.mem_of_getElem? (i := 786) (by decide +kernel)) rfl
theorem wm_787 : Cond.static yL_comes ∈ ww_GW := ww_gw (List.mem_of_getElem? (i := 787) (by decide +kernel)) rfl
theorem wk_L_172 : ww_sta RL 172 wy_L_comes 4 := ⟨wc_L_comes, wm_786, wm_787⟩
theorem wm_792 : ww_hd wy_X6_comes ∈ ww_GW := ww_gw (List.mem_of_getElem? (i := 792) (by decide +kernel)) rfl
theorem wc_X6_comes : ww_cal wy_X6_comes 2 := ⟨wm_792, wm_47, ⟨by decide +kernel, by decide +kernel⟩, by decide +kernel, by decide⟩
theorem wm_789 : Cond.methodLink RL 67 yX6_comes ∈ ww_GW := ww_gw (List.mem_of_getElem? (i := 789) (by decide +kernel)) rfl
theorem wm_790 : Cond.instanceMethod yX6_comes ∈ ww_GW := ww_gw (List.mem_of_getElem? (i := 790) (by decide +kernel)) rfl
theorem wm_791 : Cond.selects RX6 yX6_comes yX6_comes ∈ ww_GW := ww_gw (List.mem_of_getElem? (i := 791) (by decide +kernel)) rfl
theorem wk_L_67 : ww_vir RL 67 wy_X6_comes 2 := ⟨wc_X6_comes, rfl, wm_789, wm_790, wm_791⟩
theorem wm_797 : ww_hd wy_X5_isTaken ∈ ww_GW := ww_gw (List.mem_of_getElem? (i := 797) (by decide +kernel)) rfl
theorem wc_X5_isTaken : ww_cal wy_X5_isTaken 1 := ⟨wm_797, wm_52, ⟨by decide +kernel, by decide +kernel⟩, by decide +kernel, by decide⟩
theorem wm_794 : Cond.methodLink RX6 266 yX5_isTaken ∈ ww_GW := ww_gw (List.mem_of_getElem? (i := 794) (by decide +kernel)) rfl
theorem wm_795 : Cond.instanceMethod yX5_isTaken ∈ ww_GW := ww_gw (List.mem_of_getElem? (i := 795) (by decide +kernel)) rfl
theorem wm_796 : Cond.selects RX5 yX5_isTaken yX5_isTaken ∈ ww_GW := ww_gw (List.mem_of_getElem? (i := 796) (by decide +kernel)) rfl
theorem wk_X6_266 : ww_vir RX6 266 wy_X5_isTaken 1 := ⟨wc_X5_isTaken, rfl, wm_794, wm_795, wm_796⟩
theorem wm_802 : ww_hd wy_L_night ∈ ww_GW := ww_gw (List.mem_of_getElem? (i := 802) (by decide +kernel)) rfl
theorem wc_L_night : ww_cal wy_L_night 2 := ⟨wm_802, wm_46, ⟨by decide +kernel, by decide +kernel⟩, by decide +kernel, by decide⟩
theorem wm_800 : Cond.methodLink RL 175 yL_night ∈ ww_GW := ww_gw (List.mem_of_getElem? (i := 800) (by decide +kernel)) rfl
theorem wm_801 : Cond.static yL_night ∈ ww_GW := ww_gw (List.mem_of_getElem? (i := 801) (by decide +kernel)) rfl
theorem wk_L_175 : ww_sta RL 175 wy_L_night 2 := ⟨wc_L_night, wm_800, wm_801⟩
theorem wm_806 : ww_hd wy_X6_night ∈ ww_GW := ww_gw (List.mem_of_getElem? (i := 806) (by decide +kernel)) rfl
theorem wc_X6_night : ww_cal wy_X6_night 0 := ⟨wm_806, wm_47, ⟨by decide +kernel, by decide +kernel⟩, by decide +kernel, by decide⟩
theorem wm_803 : Cond.methodLink RL 70 yX6_night ∈ ww_GW := ww_gw (List.mem_of_getElem? (i := 803) (by decide +kernel)) rfl
theorem wm_804 : Cond.instanceMethod yX6_night ∈ ww_GW := ww_gw (List.mem_of_getElem? (i := 804) (by decide +kernel)) rfl
theorem wm_805 : Cond.selects RX6 yX6_night yX6_night ∈ ww_GW := ww_gw (List.mem_of_getElem? (i := 805) (by decide +kernel)) rfl
theorem wk_L_70 : ww_vir RL 70 wy_X6_night 0 := ⟨wc_X6_night, rfl, wm_803, wm_804, wm_805⟩
theorem wm_810 : ww_hd wy_Jx4a65c_isEmpty_aae02 ∈ ww_GW := ww_gw (List.mem_of_getElem? (i := 810) (by decide +kernel)) rfl
theorem wc_Jx4a65c_isEmpty_aae02 : ww_cal wy_Jx4a65c_isEmpty_aae02 0 := ⟨wm_810, wm_50, ⟨by decide +kernel, by decide +kernel⟩, by decide +kernel, by decide⟩
theorem wm_807 : Cond.methodLink RX6 277 yJx4a65c_isEmpty_aae02 ∈ ww_GW := ww_gw (List.mem_of_getElem? (i := 807) (by decide +kernel)) rfl
theorem wm_808 : Cond.instanceMethod yJx4a65c_isEmpty_aae02 ∈ ww_GW := ww_gw (List.mem_of_getElem? (i := 808) (by decide +kernel)) rfl
theorem wm_809 : Cond.selects RJx4a65c yJx4a65c_isEmpty_aae02 yJx4a65c_isEmpty_aae02 ∈ ww_GW := ww_gw (List.mem_of_getElem? (i := 809) (by decide +kernel)) rfl
theorem wk_X6_277 : ww_vir RX6 277 wy_Jx4a65c_isEmpty_aae02 0 := ⟨wc_Jx4a65c_isEmpty_aae02, rfl, wm_807, wm_808, wm_809⟩
theorem wm_815 : ww_hd wy_X5_park ∈ ww_GW := ww_gw (List.mem_of_getElem? (i := 815) (by decide +kernel)) rfl
theorem wc_X5_park : ww_cal wy_X5_park 0 := ⟨wm_815, wm_52, ⟨by decide +kernel, by decide +kernel⟩, by decide +kernel, by decide⟩
theorem wm_812 : Cond.methodLink RX6 285 yX5_park ∈ ww_GW := ww_gw (List.mem_of_getElem? (i := 812) (by decide +kernel)) rfl
theorem wm_813 : Cond.instanceMethod yX5_park ∈ ww_GW := ww_gw (List.mem_of_getElem? (i := 813) (by decide +kernel)) rfl
theorem wm_814 : Cond.selects RX5 yX5_park yX5_park ∈ ww_GW := ww_gw (List.mem_of_getElem? (i := 814) (by decide +kernel)) rfl
theorem wk_X6_285 : ww_vir RX6 285 wy_X5_park 0 := ⟨wc_X5_park, rfl, wm_812, wm_813, wm_814⟩
theorem wm_816 : Cond.methodLink RX5 53 yX5_makePlan ∈ ww_GW := ww_gw (List.mem_of_getElem? (i := 816) (by decide +kernel)) rfl
theorem wk_X5_53 : ww_vir RX5 53 wy_X5_makePlan 0 := ⟨wc_X5_makePlan, rfl, wm_816, wm_184, wm_185⟩
theorem wm_819 : ww_hd wy_X5_roadIn ∈ ww_GW := ww_gw (List.mem_of_getElem? (i := 819) (by decide +kernel)) rfl
theorem wc_X5_roadIn : ww_cal wy_X5_roadIn 2 := ⟨wm_819, wm_52, ⟨by decide +kernel, by decide +kernel⟩, by decide +kernel, by decide⟩
theorem wm_817 : Cond.methodLink RX5 59 yX5_roadIn ∈ ww_GW := ww_gw (List.mem_of_getElem? (i := 817) (by decide +kernel)) rfl
theorem wm_818 : Cond.static yX5_roadIn ∈ ww_GW := ww_gw (List.mem_of_getElem? (i := 818) (by decide +kernel)) rfl
theorem wk_X5_59 : ww_sta RX5 59 wy_X5_roadIn 2 := ⟨wc_X5_roadIn, wm_817, wm_818⟩
theorem wm_820 : Cond.methodLink RX5 66 yJx4a65c_add_9ea2d ∈ ww_GW := ww_gw (List.mem_of_getElem? (i := 820) (by decide +kernel)) rfl
theorem wk_X5_66 : ww_vir RX5 66 wy_Jx4a65c_add_9ea2d 1 := ⟨wc_Jx4a65c_add_9ea2d, rfl, wm_820, wm_441, wm_442⟩
theorem wm_824 : ww_hd wy_Jx4a65c_clear_da8c8 ∈ ww_GW := ww_gw (List.mem_of_getElem? (i := 824) (by decide +kernel)) rfl
theorem wc_Jx4a65c_clear_da8c8 : ww_cal wy_Jx4a65c_clear_da8c8 0 := ⟨wm_824, wm_50, ⟨by decide +kernel, by decide +kernel⟩, by decide +kernel, by decide⟩
theorem wm_821 : Cond.methodLink RX5 70 yJx4a65c_clear_da8c8 ∈ ww_GW := ww_gw (List.mem_of_getElem? (i := 821) (by decide +kernel)) rfl
theorem wm_822 : Cond.instanceMethod yJx4a65c_clear_da8c8 ∈ ww_GW := ww_gw (List.mem_of_getElem? (i := 822) (by decide +kernel)) rfl
theorem wm_823 : Cond.selects RJx4a65c yJx4a65c_clear_da8c8 yJx4a65c_clear_da8c8 ∈ ww_GW := ww_gw (List.mem_of_getElem? (i := 823) (by decide +kernel)) rfl
theorem wk_X5_70 : ww_vir RX5 70 wy_Jx4a65c_clear_da8c8 0 := ⟨wc_Jx4a65c_clear_da8c8, rfl, wm_821, wm_822, wm_823⟩
theorem wm_827 : ww_hd wy_L_out ∈ ww_GW := ww_gw (List.mem_of_getElem? (i := 827) (by decide +kernel)) rfl
theorem wc_L_out : ww_cal wy_L_out 2 := ⟨wm_827, wm_46, ⟨by decide +kernel, by decide +kernel⟩, by decide +kernel, by decide⟩
theorem wm_825 : Cond.methodLink RL 179 yL_out ∈ ww_GW := ww_gw (List.mem_of_getElem? (i := 825) (by decide +kernel)) rfl
theorem wm_826 : Cond.static yL_out ∈ ww_GW := ww_gw (List.mem_of_getElem? (i := 826) (by decide +kernel)) rfl
theorem wk_L_179 : ww_sta RL 179 wy_L_out 2 := ⟨wc_L_out, wm_825, wm_826⟩
theorem wm_831 : ww_hd wy_X6_out ∈ ww_GW := ww_gw (List.mem_of_getElem? (i := 831) (by decide +kernel)) rfl
theorem wc_X6_out : ww_cal wy_X6_out 0 := ⟨wm_831, wm_47, ⟨by decide +kernel, by decide +kernel⟩, by decide +kernel, by decide⟩
theorem wm_828 : Cond.methodLink RL 74 yX6_out ∈ ww_GW := ww_gw (List.mem_of_getElem? (i := 828) (by decide +kernel)) rfl
theorem wm_829 : Cond.instanceMethod yX6_out ∈ ww_GW := ww_gw (List.mem_of_getElem? (i := 829) (by decide +kernel)) rfl
theorem wm_830 : Cond.selects RX6 yX6_out yX6_out ∈ ww_GW := ww_gw (List.mem_of_getElem? (i := 830) (by decide +kernel)) rfl
theorem wk_L_74 : ww_vir RL 74 wy_X6_out 0 := ⟨wc_X6_out, rfl, wm_828, wm_829, wm_830⟩
theorem wm_836 : ww_hd wy_X5_sendFirst ∈ ww_GW := ww_gw (List.mem_of_getElem? (i := 836) (by decide +kernel)) rfl
theorem wc_X5_sendFirst : ww_cal wy_X5_sendFirst 0 := ⟨wm_836, wm_52, ⟨by decide +kernel, by decide +kernel⟩, by decide +kernel, by decide⟩
theorem wm_833 : Cond.methodLink RX6 290 yX5_sendFirst ∈ ww_GW := ww_gw (List.mem_of_getElem? (i := 833) (by decide +kernel)) rfl
theorem wm_834 : Cond.instanceMethod yX5_sendFirst ∈ ww_GW := ww_gw (List.mem_of_getElem? (i := 834) (by decide +kernel)) rfl
theorem wm_835 : Cond.selects RX5 yX5_sendFirst yX5_sendFirst ∈ ww_GW := ww_gw (List.mem_of_getElem? (i := 835) (by decide +kernel)) rfl
theorem wk_X6_290 : ww_vir RX6 290 wy_X5_sendFirst 0 := ⟨wc_X5_sendFirst, rfl, wm_833, wm_834, wm_835⟩
theorem wm_840 : ww_hd wy_Jx4a65c_remove_915e3 ∈ ww_GW := ww_gw (List.mem_of_getElem? (i := 840) (by decide +kernel)) rfl
theorem wc_Jx4a65c_remove_915e3 : ww_cal wy_Jx4a65c_remove_915e3 1 := ⟨wm_840, wm_50, ⟨by decide +kernel, by decide +kernel⟩, by decide +kernel, by decide⟩
theorem wm_837 : Cond.methodLink RX5 73 yJx4a65c_remove_915e3 ∈ ww_GW := ww_gw (List.mem_of_getElem? (i := 837) (by decide +kernel)) rfl
theorem wm_838 : Cond.instanceMethod yJx4a65c_remove_915e3 ∈ ww_GW := ww_gw (List.mem_of_getElem? (i := 838) (by decide +kernel)) rfl
theorem wm_839 : Cond.selects RJx4a65c yJx4a65c_remove_915e3 yJx4a65c_remove_915e3 ∈ ww_GW := ww_gw (List.mem_of_getElem? (i := 839) (by decide +kernel)) rfl
theorem wk_X5_73 : ww_vir RX5 73 wy_Jx4a65c_remove_915e3 1 := ⟨wc_Jx4a65c_remove_915e3, rfl, wm_837, wm_838, wm_839⟩
theorem wm_844 : ww_hd wy_Jx4a65c_fastRemove_b59b0 ∈ ww_GW := ww_gw (List.mem_of_getElem? (i := 844) (by decide +kernel)) rfl
theorem wc_Jx4a65c_fastRemove_b59b0 : ww_cal wy_Jx4a65c_fastRemove_b59b0 2 := ⟨wm_844, wm_50, ⟨by decide +kernel, by decide +kernel⟩, by decide +kernel, by decide⟩
theorem wm_841 : Cond.methodLink RJx4a65c 144 yJx4a65c_fastRemove_b59b0 ∈ ww_GW := ww_gw (List.mem_of_getElem? (i := 841) (by decide +kernel)) rfl
theorem wm_843 : Cond.instanceMethod yJx4a65c_fastRemove_b59b0 ∈ ww_GW := ww_gw (List.mem_of_getElem? (i := 843) (by decide +kernel)) rfl
theorem wm_21 : Cond.selects RJx4a65c yJx4a65c_fastRemove_b59b0 yJx4a65c_fastRemove_b59b0 ∈ ww_GW := ww_gw (List.mem_of_getElem? (i := 21) (by decide +kernel)) rfl
theorem wk_Jx4a65c_144 : ww_vir RJx4a65c 144 wy_Jx4a65c_fastRemove_b59b0 2 := ⟨wc_Jx4a65c_fastRemove_b59b0, rfl, wm_841, wm_843, wm_21⟩
theorem wm_848 : ww_hd wy_L_host ∈ ww_GW := ww_gw (List.mem_of_getElem? (i := 848) (by decide +kernel)) rfl
theorem wc_L_host : ww_cal wy_L_host 3 := ⟨wm_848, wm_46, ⟨by decide +kernel, by decide +kernel⟩, by decide +kernel, by decide⟩
theorem wm_846 : Cond.methodLink RL 182 yL_host ∈ ww_GW := ww_gw (List.mem_of_getElem? (i := 846) (by decide +kernel)) rfl
theorem wm_847 : Cond.static yL_host ∈ ww_GW := ww_gw (List.mem_of_getElem? (i := 847) (by decide +kernel)) rfl
theorem wk_L_182 : ww_sta RL 182 wy_L_host 3 := ⟨wc_L_host, wm_846, wm_847⟩
theorem wm_852 : ww_hd wy_X6_host ∈ ww_GW := ww_gw (List.mem_of_getElem? (i := 852) (by decide +kernel)) rfl
theorem wc_X6_host : ww_cal wy_X6_host 1 := ⟨wm_852, wm_47, ⟨by decide +kernel, by decide +kernel⟩, by decide +kernel, by decide⟩
theorem wm_849 : Cond.methodLink RL 77 yX6_host ∈ ww_GW := ww_gw (List.mem_of_getElem? (i := 849) (by decide +kernel)) rfl
theorem wm_850 : Cond.instanceMethod yX6_host ∈ ww_GW := ww_gw (List.mem_of_getElem? (i := 850) (by decide +kernel)) rfl
theorem wm_851 : Cond.selects RX6 yX6_host yX6_host ∈ ww_GW := ww_gw (List.mem_of_getElem? (i := 851) (by decide +kernel)) rfl
theorem wk_L_77 : ww_vir RL 77 wy_X6_host 1 := ⟨wc_X6_host, rfl, wm_849, wm_850, wm_851⟩
theorem wm_856 : ww_hd wy_X3_whereabouts ∈ ww_GW := ww_gw (List.mem_of_getElem? (i := 856) (by decide +kernel)) rfl
theorem wc_X3_whereabouts : ww_cal wy_X3_whereabouts 0 := ⟨wm_856, wm_60, ⟨by decide +kernel, by decide +kernel⟩, by decide +kernel, by decide⟩
theorem wm_853 : Cond.methodLink RX6 293 yX3_whereabouts ∈ ww_GW := ww_gw (List.mem_of_getElem? (i := 853) (by decide +kernel)) rfl
theorem wm_854 : Cond.instanceMethod yX3_whereabouts ∈ ww_GW := ww_gw (List.mem_of_getElem? (i := 854) (by decide +kernel)) rfl
theorem wm_855 : Cond.selects RX3 yX3_whereabouts yX3_whereabouts ∈ ww_GW := ww_gw (List.mem_of_getElem? (i := 855) (by decide +kernel)) rfl
theorem wk_X6_293 : ww_vir RX6 293 wy_X3_whereabouts 0 := ⟨wc_X3_whereabouts, rfl, wm_853, wm_854, wm_855⟩
theorem wm_859 : ww_hd wy_L_head ∈ ww_GW := ww_gw (List.mem_of_getElem? (i := 859) (by decide +kernel)) rfl
theorem wc_L_head : ww_cal wy_L_head 3 := ⟨wm_859, wm_46, ⟨by decide +kernel, by decide +kernel⟩, by decide +kernel, by decide⟩
theorem wm_857 : Cond.methodLink RL 185 yL_head ∈ ww_GW := ww_gw (List.mem_of_getElem? (i := 857) (by decide +kernel)) rfl
theorem wm_858 : Cond.static yL_head ∈ ww_GW := ww_gw (List.mem_of_getElem? (i := 858) (by decide +kernel)) rfl
theorem wk_L_185 : ww_sta RL 185 wy_L_head 3 := ⟨wc_L_head, wm_857, wm_858⟩
theorem wm_863 : ww_hd wy_X6_head ∈ ww_GW := ww_gw (List.mem_of_getElem? (i := 863) (by decide +kernel)) rfl
theorem wc_X6_head : ww_cal wy_X6_head 1 := ⟨wm_863, wm_47, ⟨by decide +kernel, by decide +kernel⟩, by decide +kernel, by decide⟩
theorem wm_860 : Cond.methodLink RL 80 yX6_head ∈ ww_GW := ww_gw (List.mem_of_getElem? (i := 860) (by decide +kernel)) rfl
theorem wm_861 : Cond.instanceMethod yX6_head ∈ ww_GW := ww_gw (List.mem_of_getElem? (i := 861) (by decide +kernel)) rfl
theorem wm_862 : Cond.selects RX6 yX6_head yX6_head ∈ ww_GW := ww_gw (List.mem_of_getElem? (i := 862) (by decide +kernel)) rfl
theorem wk_L_80 : ww_vir RL 80 wy_X6_head 1 := ⟨wc_X6_head, rfl, wm_860, wm_861, wm_862⟩
theorem wm_866 : ww_hd wy_L_ofPart ∈ ww_GW := ww_gw (List.mem_of_getElem? (i := 866) (by decide +kernel)) rfl
theorem wc_L_ofPart : ww_cal wy_L_ofPart 4 := ⟨wm_866, wm_46, ⟨by decide +kernel, by decide +kernel⟩, by decide +kernel, by decide⟩
theorem wm_864 : Cond.methodLink RL 188 yL_ofPart ∈ ww_GW := ww_gw (List.mem_of_getElem? (i := 864) (by decide +kernel)) rfl
theorem wm_865 : Cond.static yL_ofPart ∈ ww_GW := ww_gw (List.mem_of_getElem? (i := 865) (by decide +kernel)) rfl
theorem wk_L_188 : ww_sta RL 188 wy_L_ofPart 4 := ⟨wc_L_ofPart, wm_864, wm_865⟩
theorem wm_870 : ww_hd wy_X6_ofPart ∈ ww_GW := ww_gw (List.mem_of_getElem? (i := 870) (by decide +kernel)) rfl
theorem wc_X6_ofPart : ww_cal wy_X6_ofPart 2 := ⟨wm_870, wm_47, ⟨by decide +kernel, by decide +kernel⟩, by decide +kernel, by decide⟩
theorem wm_867 : Cond.methodLink RL 83 yX6_ofPart ∈ ww_GW := ww_gw (List.mem_of_getElem? (i := 867) (by decide +kernel)) rfl
theorem wm_868 : Cond.instanceMethod yX6_ofPart ∈ ww_GW := ww_gw (List.mem_of_getElem? (i := 868) (by decide +kernel)) rfl
theorem wm_869 : Cond.selects RX6 yX6_ofPart yX6_ofPart ∈ ww_GW := ww_gw (List.mem_of_getElem? (i := 869) (by decide +kernel)) rfl
theorem wk_L_83 : ww_vir RL 83 wy_X6_ofPart 2 := ⟨wc_X6_ofPart, rfl, wm_867, wm_868, wm_869⟩
theorem wm_874 : ww_hd wy_X2_movesOf ∈ ww_GW := ww_gw (List.mem_of_getElem? (i := 874) (by decide +kernel)) rfl
theorem wc_X2_movesOf : ww_cal wy_X2_movesOf 1 := ⟨wm_874, wm_51, ⟨by decide +kernel, by decide +kernel⟩, by decide +kernel, by decide⟩
theorem wm_871 : Cond.methodLink RX6 296 yX2_movesOf ∈ ww_GW := ww_gw (List.mem_of_getElem? (i := 871) (by decide +kernel)) rfl
theorem wm_872 : Cond.instanceMethod yX2_movesOf ∈ ww_GW := ww_gw (List.mem_of_getElem? (i := 872) (by decide +kernel)) rfl
theorem wm_873 : Cond.selects RX2 yX2_movesOf yX2_movesOf ∈ ww_GW := ww_gw (List.mem_of_getElem? (i := 873) (by decide +kernel)) rfl
theorem wk_X6_296 : ww_vir RX6 296 wy_X2_movesOf 1 := ⟨wc_X2_movesOf, rfl, wm_871, wm_872, wm_873⟩
theorem wm_875 : Cond.methodLink RX2 38 yJx4a65c_get_915e3 ∈ ww_GW := ww_gw (List.mem_of_getElem? (i := 875) (by decide +kernel)) rfl
theorem wk_X2_38 : ww_vir RX2 38 wy_Jx4a65c_get_915e3 1 := ⟨wc_Jx4a65c_get_915e3, rfl, wm_875, wm_196, wm_197⟩
theorem wm_878 : ww_hd wy_X2_isMoveOf ∈ ww_GW := ww_gw (List.mem_of_getElem? (i := 878) (by decide +kernel)) rfl
theorem wc_X2_isMoveOf : ww_cal wy_X2_isMoveOf 2 := ⟨wm_878, wm_51, ⟨by decide +kernel, by decide +kernel⟩, by decide +kernel, by decide⟩
theorem wm_876 : Cond.methodLink RX2 42 yX2_isMoveOf ∈ ww_GW := ww_gw (List.mem_of_getElem? (i := 876) (by decide +kernel)) rfl
theorem wm_877 : Cond.static yX2_isMoveOf ∈ ww_GW := ww_gw (List.mem_of_getElem? (i := 877) (by decide +kernel)) rfl
theorem wk_X2_42 : ww_sta RX2 42 wy_X2_isMoveOf 2 := ⟨wc_X2_isMoveOf, wm_876, wm_877⟩
theorem wm_882 : ww_hd wy_L_trace ∈ ww_GW := ww_gw (List.mem_of_getElem? (i := 882) (by decide +kernel)) rfl
theorem wc_L_trace : ww_cal wy_L_trace 4 := ⟨wm_882, wm_46, ⟨by decide +kernel, by decide +kernel⟩, by decide +kernel, by decide⟩
theorem wm_880 : Cond.methodLink RL 191 yL_trace ∈ ww_GW := ww_gw (List.mem_of_getElem? (i := 880) (by decide +kernel)) rfl
theorem wm_881 : Cond.static yL_trace ∈ ww_GW := ww_gw (List.mem_of_getElem? (i := 881) (by decide +kernel)) rfl
theorem wk_L_191 : ww_sta RL 191 wy_L_trace 4 := ⟨wc_L_trace, wm_880, wm_881⟩
theorem wm_886 : ww_hd wy_X6_trace ∈ ww_GW := ww_gw (List.mem_of_getElem? (i := 886) (by decide +kernel)) rfl
theorem wc_X6_trace : ww_cal wy_X6_trace 2 := ⟨wm_886, wm_47, ⟨by decide +kernel, by decide +kernel⟩, by decide +kernel, by decide⟩
theorem wm_883 : Cond.methodLink RL 86 yX6_trace ∈ ww_GW := ww_gw (List.mem_of_getElem? (i := 883) (by decide +kernel)) rfl
theorem wm_884 : Cond.instanceMethod yX6_trace ∈ ww_GW := ww_gw (List.mem_of_getElem? (i := 884) (by decide +kernel)) rfl
theorem wm_885 : Cond.selects RX6 yX6_trace yX6_trace ∈ ww_GW := ww_gw (List.mem_of_getElem? (i := 885) (by decide +kernel)) rfl
theorem wk_L_86 : ww_vir RL 86 wy_X6_trace 2 := ⟨wc_X6_trace, rfl, wm_883, wm_884, wm_885⟩
theorem wm_890 : ww_hd wy_X2_moveOf ∈ ww_GW := ww_gw (List.mem_of_getElem? (i := 890) (by decide +kernel)) rfl
theorem wc_X2_moveOf : ww_cal wy_X2_moveOf 2 := ⟨wm_890, wm_51, ⟨by decide +kernel, by decide +kernel⟩, by decide +kernel, by decide⟩
theorem wm_887 : Cond.methodLink RX6 301 yX2_moveOf ∈ ww_GW := ww_gw (List.mem_of_getElem? (i := 887) (by decide +kernel)) rfl
theorem wm_888 : Cond.instanceMethod yX2_moveOf ∈ ww_GW := ww_gw (List.mem_of_getElem? (i := 888) (by decide +kernel)) rfl
theorem wm_889 : Cond.selects RX2 yX2_moveOf yX2_moveOf ∈ ww_GW := ww_gw (List.mem_of_getElem? (i := 889) (by decide +kernel)) rfl
theorem wk_X6_301 : ww_vir RX6 301 wy_X2_moveOf 2 := ⟨wc_X2_moveOf, rfl, wm_887, wm_888, wm_889⟩
theorem wm_894 : ww_hd wy_L_lifeAnew ∈ ww_GW := ww_gw (List.mem_of_getElem? (i := 894) (by decide +kernel)) rfl
theorem wc_L_lifeAnew : ww_cal wy_L_lifeAnew 3 := ⟨wm_894, wm_46, ⟨by decide +kernel, by decide +kernel⟩, by decide +kernel, by decide⟩
theorem wm_892 : Cond.methodLink RL 194 yL_lifeAnew ∈ ww_GW := ww_gw (List.mem_of_getElem? (i := 892) (by decide +kernel)) rfl
theorem wm_893 : Cond.static yL_lifeAnew ∈ ww_GW := ww_gw (List.mem_of_getElem? (i := 893) (by decide +kernel)) rfl
theorem wk_L_194 : ww_sta RL 194 wy_L_lifeAnew 3 := ⟨wc_L_lifeAnew, wm_892, wm_893⟩
theorem wm_898 : ww_hd wy_X6_lifeAnew ∈ ww_GW := ww_gw (List.mem_of_getElem? (i := 898) (by decide +kernel)) rfl
theorem wc_X6_lifeAnew : ww_cal wy_X6_lifeAnew 1 := ⟨wm_898, wm_47, ⟨by decide +kernel, by decide +kernel⟩, by decide +kernel, by decide⟩
theorem wm_895 : Cond.methodLink RL 89 yX6_lifeAnew ∈ ww_GW := ww_gw (List.mem_of_getElem? (i := 895) (by decide +kernel)) rfl
theorem wm_896 : Cond.instanceMethod yX6_lifeAnew ∈ ww_GW := ww_gw (List.mem_of_getElem? (i := 896) (by decide +kernel)) rfl
theorem wm_897 : Cond.selects RX6 yX6_lifeAnew yX6_lifeAnew ∈ ww_GW := ww_gw (List.mem_of_getElem? (i := 897) (by decide +kernel)) rfl
theorem wk_L_89 : ww_vir RL 89 wy_X6_lifeAnew 1 := ⟨wc_X6_lifeAnew, rfl, wm_895, wm_896, wm_897⟩
theorem wm_902 : ww_hd wy_X2_lifeOf ∈ ww_GW := ww_gw (List.mem_of_getElem? (i := 902) (by decide +kernel)) rfl
theorem wc_X2_lifeOf : ww_cal wy_X2_lifeOf 1 := ⟨wm_902, wm_51, ⟨by decide +kernel, by decide +kernel⟩, by decide +kernel, by decide⟩
theorem wm_899 : Cond.methodLink RX6 315 yX2_lifeOf ∈ ww_GW := ww_gw (List.mem_of_getElem? (i := 899) (by decide +kernel)) rfl
theorem wm_900 : Cond.instanceMethod yX2_lifeOf ∈ ww_GW := ww_gw (List.mem_of_getElem? (i := 900) (by decide +kernel)) rfl
theorem wm_901 : Cond.selects RX2 yX2_lifeOf yX2_lifeOf ∈ ww_GW := ww_gw (List.mem_of_getElem? (i := 901) (by decide +kernel)) rfl
theorem wk_X6_315 : ww_vir RX6 315 wy_X2_lifeOf 1 := ⟨wc_X2_lifeOf, rfl, wm_899, wm_900, wm_901⟩
theorem wm_906 : ww_hd wy_X2_topThen ∈ ww_GW := ww_gw (List.mem_of_getElem? (i := 906) (by decide +kernel)) rfl
theorem wc_X2_topThen : ww_cal wy_X2_topThen 1 := ⟨wm_906, wm_51, ⟨by decide +kernel, by decide +kernel⟩, by decide +kernel, by decide⟩
theorem wm_903 : Cond.methodLink RX2 53 yX2_topThen ∈ ww_GW := ww_gw (List.mem_of_getElem? (i := 903) (by decide +kernel)) rfl
theorem wm_905 : Cond.instanceMethod yX2_topThen ∈ ww_GW := ww_gw (List.mem_of_getElem? (i := 905) (by decide +kernel)) rfl
theorem wm_22 : Cond.selects RX2 yX2_topThen yX2_topThen ∈ ww_GW := ww_gw (List.mem_of_getElem? (i := 22) (by decide +kernel)) rfl
theorem wk_X2_53 : ww_vir RX2 53 wy_X2_topThen 1 := ⟨wc_X2_topThen, rfl, wm_903, wm_905, wm_22⟩
theorem wm_910 : ww_hd wy_X2_isPart ∈ ww_GW := ww_gw (List.mem_of_getElem? (i := 910) (by decide +kernel)) rfl
theorem wc_X2_isPart : ww_cal wy_X2_isPart 1 := ⟨wm_910, wm_51, ⟨by decide +kernel, by decide +kernel⟩, by decide +kernel, by decide⟩
theorem wm_907 : Cond.methodLink RX2 57 yX2_isPart ∈ ww_GW := ww_gw (List.mem_of_getElem? (i := 907) (by decide +kernel)) rfl
theorem wm_909 : Cond.instanceMethod yX2_isPart ∈ ww_GW := ww_gw (List.mem_of_getElem? (i := 909) (by decide +kernel)) rfl
theorem wm_23 : Cond.selects RX2 yX2_isPart yX2_isPart ∈ ww_GW := ww_gw (List.mem_of_getElem? (i := 23) (by decide +kernel)) rfl
theorem wk_X2_57 : ww_vir RX2 57 wy_X2_isPart 1 := ⟨wc_X2_isPart, rfl, wm_907, wm_909, wm_23⟩
theorem wm_913 : ww_hd wy_L_wheel ∈ ww_GW := ww_gw (List.mem_of_getElem? (i := 913) (by decide +kernel)) rfl
theorem wc_L_wheel : ww_cal wy_L_wheel 4 := ⟨wm_913, wm_46, ⟨by decide +kernel, by decide +kernel⟩, by decide +kernel, by decide⟩
theorem wm_911 : Cond.methodLink RL 197 yL_wheel ∈ ww_GW := ww_gw (List.mem_of_getElem? (i := 911) (by decide +kernel)) rfl
theorem wm_912 : Cond.static yL_wheel ∈ ww_GW := ww_gw (List.mem_of_getElem? (i := 912) (by decide +kernel)) rfl
theorem wk_L_197 : ww_sta RL 197 wy_L_wheel 4 := ⟨wc_L_wheel, wm_911, wm_912⟩
theorem wm_917 : ww_hd wy_X6_wheel ∈ ww_GW := ww_gw (List.mem_of_getElem? (i := 917) (by decide +kernel)) rfl
theorem wc_X6_wheel : ww_cal wy_X6_wheel 2 := ⟨wm_917, wm_47, ⟨by decide +kernel, by decide +kernel⟩, by decide +kernel, by decide⟩
theorem wm_914 : Cond.methodLink RL 92 yX6_wheel ∈ ww_GW := ww_gw (List.mem_of_getElem? (i := 914) (by decide +kernel)) rfl
theorem wm_915 : Cond.instanceMethod yX6_wheel ∈ ww_GW := ww_gw (List.mem_of_getElem? (i := 915) (by decide +kernel)) rfl
theorem wm_916 : Cond.selects RX6 yX6_wheel yX6_wheel ∈ ww_GW := ww_gw (List.mem_of_getElem? (i := 916) (by decide +kernel)) rfl
theorem wk_L_92 : ww_vir RL 92 wy_X6_wheel 2 := ⟨wc_X6_wheel, rfl, wm_914, wm_915, wm_916⟩
theorem wm_921 : ww_hd wy_L_foretell ∈ ww_GW := ww_gw (List.mem_of_getElem? (i := 921) (by decide +kernel)) rfl
theorem wc_L_foretell : ww_cal wy_L_foretell 5 := ⟨wm_921, wm_46, ⟨by decide +kernel, by decide +kernel⟩, by decide +kernel, by decide⟩
theorem wm_919 : Cond.methodLink RL 200 yL_foretell ∈ ww_GW := ww_gw (List.mem_of_getElem? (i := 919) (by decide +kernel)) rfl
theorem wm_920 : Cond.static yL_foretell ∈ ww_GW := ww_gw (List.mem_of_getElem? (i := 920) (by decide +kernel)) rfl
theorem wk_L_200 : ww_sta RL 200 wy_L_foretell 5 := ⟨wc_L_foretell, wm_919, wm_920⟩
theorem wm_925 : ww_hd wy_X6_foretell ∈ ww_GW := ww_gw (List.mem_of_getElem? (i := 925) (by decide +kernel)) rfl
theorem wc_X6_foretell : ww_cal wy_X6_foretell 3 := ⟨wm_925, wm_47, ⟨by decide +kernel, by decide +kernel⟩, by decide +kernel, by decide⟩
theorem wm_922 : Cond.methodLink RL 95 yX6_foretell ∈ ww_GW := ww_gw (List.mem_of_getElem? (i := 922) (by decide +kernel)) rfl
theorem wm_923 : Cond.instanceMethod yX6_foretell ∈ ww_GW := ww_gw (List.mem_of_getElem? (i := 923) (by decide +kernel)) rfl
theorem wm_924 : Cond.selects RX6 yX6_foretell yX6_foretell ∈ ww_GW := ww_gw (List.mem_of_getElem? (i := 924) (by decide +kernel)) rfl
theorem wk_L_95 : ww_vir RL 95 wy_X6_foretell 3 := ⟨wc_X6_foretell, rfl, wm_922, wm_923, wm_924⟩
theorem wm_928 : ww_hd wy_L_bars ∈ ww_GW := ww_gw (List.mem_of_getElem? (i := 928) (by decide +kernel)) rfl
theorem wc_L_bars : ww_cal wy_L_bars 3 := ⟨wm_928, wm_46, ⟨by decide +kernel, by decide +kernel⟩, by decide +kernel, by decide⟩
theorem wm_926 : Cond.methodLink RL 203 yL_bars ∈ ww_GW := ww_gw (List.mem_of_getElem? (i := 926) (by decide +kernel)) rfl
theorem wm_927 : Cond.static yL_bars ∈ ww_GW := ww_gw (List.mem_of_getElem? (i := 927) (by decide +kernel)) rfl
theorem wk_L_203 : ww_sta RL 203 wy_L_bars 3 := ⟨wc_L_bars, wm_926, wm_927⟩
theorem wm_932 : ww_hd wy_X6_bars ∈ ww_GW := ww_gw (List.mem_of_getElem? (i := 932) (by decide +kernel)) rfl
theorem wc_X6_bars : ww_cal wy_X6_bars 1 := ⟨wm_932, wm_47, ⟨by decide +kernel, by decide +kernel⟩, by decide +kernel, by decide⟩
theorem wm_929 : Cond.methodLink RL 98 yX6_bars ∈ ww_GW := ww_gw (List.mem_of_getElem? (i := 929) (by decide +kernel)) rfl
theorem wm_930 : Cond.instanceMethod yX6_bars ∈ ww_GW := ww_gw (List.mem_of_getElem? (i := 930) (by decide +kernel)) rfl
theorem wm_931 : Cond.selects RX6 yX6_bars yX6_bars ∈ ww_GW := ww_gw (List.mem_of_getElem? (i := 931) (by decide +kernel)) rfl
theorem wk_L_98 : ww_vir RL 98 wy_X6_bars 1 := ⟨wc_X6_bars, rfl, wm_929, wm_930, wm_931⟩
theorem wm_935 : ww_hd wy_L_barredBy ∈ ww_GW := ww_gw (List.mem_of_getElem? (i := 935) (by decide +kernel)) rfl
theorem wc_L_barredBy : ww_cal wy_L_barredBy 3 := ⟨wm_935, wm_46, ⟨by decide +kernel, by decide +kernel⟩, by decide +kernel, by decide⟩
theorem wm_933 : Cond.methodLink RL 206 yL_barredBy ∈ ww_GW := ww_gw (List.mem_of_getElem? (i := 933) (by decide +kernel)) rfl
theorem wm_934 : Cond.static yL_barredBy ∈ ww_GW := ww_gw (List.mem_of_getElem? (i := 934) (by decide +kernel)) rfl
theorem wk_L_206 : ww_sta RL 206 wy_L_barredBy 3 := ⟨wc_L_barredBy, wm_933, wm_934⟩
theorem wm_939 : ww_hd wy_X6_barredBy ∈ ww_GW := ww_gw (List.mem_of_getElem? (i := 939) (by decide +kernel)) rfl
theorem wc_X6_barredBy : ww_cal wy_X6_barredBy 1 := ⟨wm_939, wm_47, ⟨by decide +kernel, by decide +kernel⟩, by decide +kernel, by decide⟩
theorem wm_936 : Cond.methodLink RL 101 yX6_barredBy ∈ ww_GW := ww_gw (List.mem_of_getElem? (i := 936) (by decide +kernel)) rfl
theorem wm_937 : Cond.instanceMethod yX6_barredBy ∈ ww_GW := ww_gw (List.mem_of_getElem? (i := 937) (by decide +kernel)) rfl
theorem wm_938 : Cond.selects RX6 yX6_barredBy yX6_barredBy ∈ ww_GW := ww_gw (List.mem_of_getElem? (i := 938) (by decide +kernel)) rfl
theorem wk_L_101 : ww_vir RL 101 wy_X6_barredBy 1 := ⟨wc_X6_barredBy, rfl, wm_936, wm_937, wm_938⟩
theorem wm_942 : ww_hd wy_L_isReleased ∈ ww_GW := ww_gw (List.mem_of_getElem? (i := 942) (by decide +kernel)) rfl
theorem wc_L_isReleased : ww_cal wy_L_isReleased 3 := ⟨wm_942, wm_46, ⟨by decide +kernel, by decide +kernel⟩, by decide +kernel, by decide⟩
theorem wm_940 : Cond.methodLink RL 209 yL_isReleased ∈ ww_GW := ww_gw (List.mem_of_getElem? (i := 940) (by decide +kernel)) rfl
theorem wm_941 : Cond.static yL_isReleased ∈ ww_GW := ww_gw (List.mem_of_getElem? (i := 941) (by decide +kernel)) rfl
theorem wk_L_209 : ww_sta RL 209 wy_L_isReleased 3 := ⟨wc_L_isReleased, wm_940, wm_941⟩
theorem wm_946 : ww_hd wy_X6_isReleased ∈ ww_GW := ww_gw (List.mem_of_getElem? (i := 946) (by decide +kernel)) rfl
theorem wc_X6_isReleased : ww_cal wy_X6_isReleased 1 := ⟨wm_946, wm_47, ⟨by decide +kernel, by decide +kernel⟩, by decide +kernel, by decide⟩
theorem wm_943 : Cond.methodLink RL 104 yX6_isReleased ∈ ww_GW := ww_gw (List.mem_of_getElem? (i := 943) (by decide +kernel)) rfl
theorem wm_944 : Cond.instanceMethod yX6_isReleased ∈ ww_GW := ww_gw (List.mem_of_getElem? (i := 944) (by decide +kernel)) rfl
theorem wm_945 : Cond.selects RX6 yX6_isReleased yX6_isReleased ∈ ww_GW := ww_gw (List.mem_of_getElem? (i := 945) (by decide +kernel)) rfl
theorem wk_L_104 : ww_vir RL 104 wy_X6_isReleased 1 := ⟨wc_X6_isReleased, rfl, wm_943, wm_944, wm_945⟩
theorem wm_949 : ww_hd wy_L_road ∈ ww_GW := ww_gw (List.mem_of_getElem? (i := 949) (by decide +kernel)) rfl
theorem wc_L_road : ww_cal wy_L_road 4 := ⟨wm_949, wm_46, ⟨by decide +kernel, by decide +kernel⟩, by decide +kernel, by decide⟩
theorem wm_947 : Cond.methodLink RL 220 yL_road ∈ ww_GW := ww_gw (List.mem_of_getElem? (i := 947) (by decide +kernel)) rfl
theorem wm_948 : Cond.static yL_road ∈ ww_GW := ww_gw (List.mem_of_getElem? (i := 948) (by decide +kernel)) rfl
theorem wk_L_220 : ww_sta RL 220 wy_L_road 4 := ⟨wc_L_road, wm_947, wm_948⟩
theorem wm_953 : ww_hd wy_X6_road ∈ ww_GW := ww_gw (List.mem_of_getElem? (i := 953) (by decide +kernel)) rfl
theorem wc_X6_road : ww_cal wy_X6_road 2 := ⟨wm_953, wm_47, ⟨by decide +kernel, by decide +kernel⟩, by decide +kernel, by decide⟩
theorem wm_950 : Cond.methodLink RL 108 yX6_road ∈ ww_GW := ww_gw (List.mem_of_getElem? (i := 950) (by decide +kernel)) rfl
theorem wm_951 : Cond.instanceMethod yX6_road ∈ ww_GW := ww_gw (List.mem_of_getElem? (i := 951) (by decide +kernel)) rfl
theorem wm_952 : Cond.selects RX6 yX6_road yX6_road ∈ ww_GW := ww_gw (List.mem_of_getElem? (i := 952) (by decide +kernel)) rfl
theorem wk_L_108 : ww_vir RL 108 wy_X6_road 2 := ⟨wc_X6_road, rfl, wm_950, wm_951, wm_952⟩
theorem wm_958 : ww_hd wy_X5_trainOn ∈ ww_GW := ww_gw (List.mem_of_getElem? (i := 958) (by decide +kernel)) rfl
theorem wc_X5_trainOn : ww_cal wy_X5_trainOn 2 := ⟨wm_958, wm_52, ⟨by decide +kernel, by decide +kernel⟩, by decide +kernel, by decide⟩
theorem wm_955 : Cond.methodLink RX6 334 yX5_trainOn ∈ ww_GW := ww_gw (List.mem_of_getElem? (i := 955) (by decide +kernel)) rfl
theorem wm_956 : Cond.instanceMethod yX5_trainOn ∈ ww_GW := ww_gw (List.mem_of_getElem? (i := 956) (by decide +kernel)) rfl
theorem wm_957 : Cond.selects RX5 yX5_trainOn yX5_trainOn ∈ ww_GW := ww_gw (List.mem_of_getElem? (i := 957) (by decide +kernel)) rfl
theorem wk_X6_334 : ww_vir RX6 334 wy_X5_trainOn 2 := ⟨wc_X5_trainOn, rfl, wm_955, wm_956, wm_957⟩
theorem wm_963 : ww_hd wy_X7_init ∈ ww_GW := ww_gw (List.mem_of_getElem? (i := 963) (by decide +kernel)) rfl
theorem wm_54 : Cond.initialized RX7 ∈ ww_GW := ww_gw (List.mem_of_getElem? (i := 54) (by decide +kernel)) rfl
theorem wc_X7_init : ww_cal wy_X7_init 0 := ⟨wm_963, wm_54, ⟨by decide +kernel, by decide +kernel⟩, by decide +kernel, by decide⟩
theorem wm_961 : Cond.methodLink RL 114 yX7_init ∈ ww_GW := ww_gw (List.mem_of_getElem? (i := 961) (by decide +kernel)) rfl
theorem wm_962 : Cond.instanceMethod yX7_init ∈ ww_GW := ww_gw (List.mem_of_getElem? (i := 962) (by decide +kernel)) rfl
theorem wk_L_114 : ww_ini RL 114 wy_X7_init 0 := ⟨wc_X7_init, rfl, wm_961, wm_962, rfl⟩
theorem wm_1069 : ww_hd wy_X7_thrown ∈ ww_GW := ww_gw (List.mem_of_getElem? (i := 1069) (by decide +kernel)) rfl
theorem wc_X7_thrown : ww_cal wy_X7_thrown 0 := ⟨wm_1069, wm_54, ⟨by decide +kernel, by decide +kernel⟩, by decide +kernel, by decide⟩
theorem wm_1066 : Cond.methodLink RL 121 yX7_thrown ∈ ww_GW := ww_gw (List.mem_of_getElem? (i := 1066) (by decide +kernel)) rfl
theorem wm_1067 : Cond.instanceMethod yX7_thrown ∈ ww_GW := ww_gw (List.mem_of_getElem? (i := 1067) (by decide +kernel)) rfl
theorem wm_1068 : Cond.selects RX7 yX7_thrown yX7_thrown ∈ ww_GW := ww_gw (List.mem_of_getElem? (i := 1068) (by decide +kernel)) rfl
theorem wk_L_121 : ww_vir RL 121 wy_X7_thrown 0 := ⟨wc_X7_thrown, rfl, wm_1066, wm_1067, wm_1068⟩
theorem wm_1073 : ww_hd wy_X7_part ∈ ww_GW := ww_gw (List.mem_of_getElem? (i := 1073) (by decide +kernel)) rfl
theorem wc_X7_part : ww_cal wy_X7_part 3 := ⟨wm_1073, wm_54, ⟨by decide +kernel, by decide +kernel⟩, by decide +kernel, by decide⟩
theorem wm_1070 : Cond.methodLink RL 120 yX7_part ∈ ww_GW := ww_gw (List.mem_of_getElem? (i := 1070) (by decide +kernel)) rfl
theorem wm_1071 : Cond.instanceMethod yX7_part ∈ ww_GW := ww_gw (List.mem_of_getElem? (i := 1071) (by decide +kernel)) rfl
theorem wm_1072 : Cond.selects RX7 yX7_part yX7_part ∈ ww_GW := ww_gw (List.mem_of_getElem? (i := 1072) (by decide +kernel)) rfl
theorem wk_L_120 : ww_vir RL 120 wy_X7_part 3 := ⟨wc_X7_part, rfl, wm_1070, wm_1071, wm_1072⟩
theorem wm_1076 : ww_hd wy_X7_in ∈ ww_GW := ww_gw (List.mem_of_getElem? (i := 1076) (by decide +kernel)) rfl
theorem wc_X7_in : ww_cal wy_X7_in 3 := ⟨wm_1076, wm_54, ⟨by decide +kernel, by decide +kernel⟩, by decide +kernel, by decide⟩
theorem wm_1074 : Cond.methodLink RX7 105 yX7_in ∈ ww_GW := ww_gw (List.mem_of_getElem? (i := 1074) (by decide +kernel)) rfl
theorem wm_1075 : Cond.static yX7_in ∈ ww_GW := ww_gw (List.mem_of_getElem? (i := 1075) (by decide +kernel)) rfl
theorem wk_X7_105 : ww_sta RX7 105 wy_X7_in 3 := ⟨wc_X7_in, wm_1074, wm_1075⟩
theorem wm_1080 : ww_hd wy_X7_limits ∈ ww_GW := ww_gw (List.mem_of_getElem? (i := 1080) (by decide +kernel)) rfl
theorem wc_X7_limits : ww_cal wy_X7_limits 4 := ⟨wm_1080, wm_54, ⟨by decide +kernel, by decide +kernel⟩, by decide +kernel, by decide⟩
theorem wm_1077 : Cond.methodLink RL 127 yX7_limits ∈ ww_GW := ww_gw (List.mem_of_getElem? (i := 1077) (by decide +kernel)) rfl
theorem wm_1078 : Cond.instanceMethod yX7_limits ∈ ww_GW := ww_gw (List.mem_of_getElem? (i := 1078) (by decide +kernel)) rfl
theorem wm_1079 : Cond.selects RX7 yX7_limits yX7_limits ∈ ww_GW := ww_gw (List.mem_of_getElem? (i := 1079) (by decide +kernel)) rfl
theorem wk_L_127 : ww_vir RL 127 wy_X7_limits 4 := ⟨wc_X7_limits, rfl, wm_1077, wm_1078, wm_1079⟩
theorem wm_1085 : ww_hd wy_X7_fit ∈ ww_GW := ww_gw (List.mem_of_getElem? (i := 1085) (by decide +kernel)) rfl
theorem wc_X7_fit : ww_cal wy_X7_fit 2 := ⟨wm_1085, wm_54, ⟨by decide +kernel, by decide +kernel⟩, by decide +kernel, by decide⟩
theorem wm_1082 : Cond.methodLink RL 131 yX7_fit ∈ ww_GW := ww_gw (List.mem_of_getElem? (i := 1082) (by decide +kernel)) rfl
theorem wm_1083 : Cond.instanceMethod yX7_fit ∈ ww_GW := ww_gw (List.mem_of_getElem? (i := 1083) (by decide +kernel)) rfl
theorem wm_1084 : Cond.selects RX7 yX7_fit yX7_fit ∈ ww_GW := ww_gw (List.mem_of_getElem? (i := 1084) (by decide +kernel)) rfl
theorem wk_L_131 : ww_vir RL 131 wy_X7_fit 2 := ⟨wc_X7_fit, rfl, wm_1082, wm_1083, wm_1084⟩
theorem wm_1089 : ww_hd wy_X7_isPart ∈ ww_GW := ww_gw (List.mem_of_getElem? (i := 1089) (by decide +kernel)) rfl
theorem wc_X7_isPart : ww_cal wy_X7_isPart 1 := ⟨wm_1089, wm_54, ⟨by decide +kernel, by decide +kernel⟩, by decide +kernel, by decide⟩
theorem wm_1086 : Cond.methodLink RX7 109 yX7_isPart ∈ ww_GW := ww_gw (List.mem_of_getElem? (i := 1086) (by decide +kernel)) rfl
theorem wm_1088 : Cond.instanceMethod yX7_isPart ∈ ww_GW := ww_gw (List.mem_of_getElem? (i := 1088) (by decide +kernel)) rfl
theorem wm_24 : Cond.selects RX7 yX7_isPart yX7_isPart ∈ ww_GW := ww_gw (List.mem_of_getElem? (i := 24) (by decide +kernel)) rfl
theorem wk_X7_109 : ww_vir RX7 109 wy_X7_isPart 1 := ⟨wc_X7_isPart, rfl, wm_1086, wm_1088, wm_24⟩
theorem wm_1092 : ww_hd wy_X7_places ∈ ww_GW := ww_gw (List.mem_of_getElem? (i := 1092) (by decide +kernel)) rfl
theorem wc_X7_places : ww_cal wy_X7_places 2 := ⟨wm_1092, wm_54, ⟨by decide +kernel, by decide +kernel⟩, by decide +kernel, by decide⟩
theorem wm_1090 : Cond.methodLink RX7 121 yX7_places ∈ ww_GW := ww_gw (List.mem_of_getElem? (i := 1090) (by decide +kernel)) rfl
theorem wm_1091 : Cond.static yX7_places ∈ ww_GW := ww_gw (List.mem_of_getElem? (i := 1091) (by decide +kernel)) rfl
theorem wk_X7_121 : ww_sta RX7 121 wy_X7_places 2 := ⟨wc_X7_places, wm_1090, wm_1091⟩
theorem wm_1096 : ww_hd wy_X7_isBound ∈ ww_GW := ww_gw (List.mem_of_getElem? (i := 1096) (by decide +kernel)) rfl
theorem wc_X7_isBound : ww_cal wy_X7_isBound 1 := ⟨wm_1096, wm_54, ⟨by decide +kernel, by decide +kernel⟩, by decide +kernel, by decide⟩
theorem wm_1093 : Cond.methodLink RX7 125 yX7_isBound ∈ ww_GW := ww_gw (List.mem_of_getElem? (i := 1093) (by decide +kernel)) rfl
theorem wm_1095 : Cond.instanceMethod yX7_isBound ∈ ww_GW := ww_gw (List.mem_of_getElem? (i := 1095) (by decide +kernel)) rfl
theorem wm_25 : Cond.selects RX7 yX7_isBound yX7_isBound ∈ ww_GW := ww_gw (List.mem_of_getElem? (i := 25) (by decide +kernel)) rfl
theorem wk_X7_125 : ww_vir RX7 125 wy_X7_isBound 1 := ⟨wc_X7_isBound, rfl, wm_1093, wm_1095, wm_25⟩
theorem wm_1100 : ww_hd wy_X7_headOf ∈ ww_GW := ww_gw (List.mem_of_getElem? (i := 1100) (by decide +kernel)) rfl
theorem wc_X7_headOf : ww_cal wy_X7_headOf 1 := ⟨wm_1100, wm_54, ⟨by decide +kernel, by decide +kernel⟩, by decide +kernel, by decide⟩
theorem wm_1097 : Cond.methodLink RX7 114 yX7_headOf ∈ ww_GW := ww_gw (List.mem_of_getElem? (i := 1097) (by decide +kernel)) rfl
theorem wm_1099 : Cond.instanceMethod yX7_headOf ∈ ww_GW := ww_gw (List.mem_of_getElem? (i := 1099) (by decide +kernel)) rfl
theorem wm_26 : Cond.selects RX7 yX7_headOf yX7_headOf ∈ ww_GW := ww_gw (List.mem_of_getElem? (i := 26) (by decide +kernel)) rfl
theorem wk_X7_114 : ww_vir RX7 114 wy_X7_headOf 1 := ⟨wc_X7_headOf, rfl, wm_1097, wm_1099, wm_26⟩
theorem wm_1104 : ww_hd wy_X7_inside ∈ ww_GW := ww_gw (List.mem_of_getElem? (i := 1104) (by decide +kernel)) rfl
theorem wc_X7_inside : ww_cal wy_X7_inside 2 := ⟨wm_1104, wm_54, ⟨by decide +kernel, by decide +kernel⟩, by decide +kernel, by decide⟩
theorem wm_1101 : Cond.methodLink RX7 128 yX7_inside ∈ ww_GW := ww_gw (List.mem_of_getElem? (i := 1101) (by decide +kernel)) rfl
theorem wm_1103 : Cond.instanceMethod yX7_inside ∈ ww_GW := ww_gw (List.mem_of_getElem? (i := 1103) (by decide +kernel)) rfl
theorem wm_27 : Cond.selects RX7 yX7_inside yX7_inside ∈ ww_GW := ww_gw (List.mem_of_getElem? (i := 27) (by decide +kernel)) rfl
theorem wk_X7_128 : ww_vir RX7 128 wy_X7_inside 2 := ⟨wc_X7_inside, rfl, wm_1101, wm_1103, wm_27⟩
theorem wm_1108 : ww_hd wy_X7_moves ∈ ww_GW := ww_gw (List.mem_of_getElem? (i := 1108) (by decide +kernel)) rfl
theorem wc_X7_moves : ww_cal wy_X7_moves 2 := ⟨wm_1108, wm_54, ⟨by decide +kernel, by decide +kernel⟩, by decide +kernel, by decide⟩
theorem wm_1105 : Cond.methodLink RX7 131 yX7_moves ∈ ww_GW := ww_gw (List.mem_of_getElem? (i := 1105) (by decide +kernel)) rfl
theorem wm_1107 : Cond.instanceMethod yX7_moves ∈ ww_GW := ww_gw (List.mem_of_getElem? (i := 1107) (by decide +kernel)) rfl
theorem wm_28 : Cond.selects RX7 yX7_moves yX7_moves ∈ ww_GW := ww_gw (List.mem_of_getElem? (i := 28) (by decide +kernel)) rfl
theorem wk_X7_131 : ww_vir RX7 131 wy_X7_moves 2 := ⟨wc_X7_moves, rfl, wm_1105, wm_1107, wm_28⟩
theorem wm_1112 : ww_hd wy_X7_ends ∈ ww_GW := ww_gw (List.mem_of_getElem? (i := 1112) (by decide +kernel)) rfl
theorem wc_X7_ends : ww_cal wy_X7_ends 1 := ⟨wm_1112, wm_54, ⟨by decide +kernel, by decide +kernel⟩, by decide +kernel, by decide⟩
theorem wm_1109 : Cond.methodLink RX7 135 yX7_ends ∈ ww_GW := ww_gw (List.mem_of_getElem? (i := 1109) (by decide +kernel)) rfl
theorem wm_1111 : Cond.instanceMethod yX7_ends ∈ ww_GW := ww_gw (List.mem_of_getElem? (i := 1111) (by decide +kernel)) rfl
theorem wm_29 : Cond.selects RX7 yX7_ends yX7_ends ∈ ww_GW := ww_gw (List.mem_of_getElem? (i := 29) (by decide +kernel)) rfl
theorem wk_X7_135 : ww_vir RX7 135 wy_X7_ends 1 := ⟨wc_X7_ends, rfl, wm_1109, wm_1111, wm_29⟩
theorem wm_1116 : ww_hd wy_X7_take ∈ ww_GW := ww_gw (List.mem_of_getElem? (i := 1116) (by decide +kernel)) rfl
theorem wc_X7_take : ww_cal wy_X7_take 1 := ⟨wm_1116, wm_54, ⟨by decide +kernel, by decide +kernel⟩, by decide +kernel, by decide⟩
theorem wm_1113 : Cond.methodLink RL 135 yX7_take ∈ ww_GW := ww_gw (List.mem_of_getElem? (i := 1113) (by decide +kernel)) rfl
theorem wm_1114 : Cond.instanceMethod yX7_take ∈ ww_GW := ww_gw (List.mem_of_getElem? (i := 1114) (by decide +kernel)) rfl
theorem wm_1115 : Cond.selects RX7 yX7_take yX7_take ∈ ww_GW := ww_gw (List.mem_of_getElem? (i := 1115) (by decide +kernel)) rfl
theorem wk_L_135 : ww_vir RL 135 wy_X7_take 1 := ⟨wc_X7_take, rfl, wm_1113, wm_1114, wm_1115⟩
theorem wm_1120 : ww_hd wy_X7_scrap ∈ ww_GW := ww_gw (List.mem_of_getElem? (i := 1120) (by decide +kernel)) rfl
theorem wc_X7_scrap : ww_cal wy_X7_scrap 1 := ⟨wm_1120, wm_54, ⟨by decide +kernel, by decide +kernel⟩, by decide +kernel, by decide⟩
theorem wm_1117 : Cond.methodLink RL 139 yX7_scrap ∈ ww_GW := ww_gw (List.mem_of_getElem? (i := 1117) (by decide +kernel)) rfl
theorem wm_1118 : Cond.instanceMethod yX7_scrap ∈ ww_GW := ww_gw (List.mem_of_getElem? (i := 1118) (by decide +kernel)) rfl
theorem wm_1119 : Cond.selects RX7 yX7_scrap yX7_scrap ∈ ww_GW := ww_gw (List.mem_of_getElem? (i := 1119) (by decide +kernel)) rfl
theorem wk_L_139 : ww_vir RL 139 wy_X7_scrap 1 := ⟨wc_X7_scrap, rfl, wm_1117, wm_1118, wm_1119⟩
theorem wm_1124 : ww_hd wy_X7_waits ∈ ww_GW := ww_gw (List.mem_of_getElem? (i := 1124) (by decide +kernel)) rfl
theorem wc_X7_waits : ww_cal wy_X7_waits 1 := ⟨wm_1124, wm_54, ⟨by decide +kernel, by decide +kernel⟩, by decide +kernel, by decide⟩
theorem wm_1121 : Cond.methodLink RX7 142 yX7_waits ∈ ww_GW := ww_gw (List.mem_of_getElem? (i := 1121) (by decide +kernel)) rfl
theorem wm_1123 : Cond.instanceMethod yX7_waits ∈ ww_GW := ww_gw (List.mem_of_getElem? (i := 1123) (by decide +kernel)) rfl
theorem wm_30 : Cond.selects RX7 yX7_waits yX7_waits ∈ ww_GW := ww_gw (List.mem_of_getElem? (i := 30) (by decide +kernel)) rfl
theorem wk_X7_142 : ww_vir RX7 142 wy_X7_waits 1 := ⟨wc_X7_waits, rfl, wm_1121, wm_1123, wm_30⟩
theorem wm_1128 : ww_hd wy_X7_run ∈ ww_GW := ww_gw (List.mem_of_getElem? (i := 1128) (by decide +kernel)) rfl
theorem wc_X7_run : ww_cal wy_X7_run 3 := ⟨wm_1128, wm_54, ⟨by decide +kernel, by decide +kernel⟩, by decide +kernel, by decide⟩
theorem wm_1125 : Cond.methodLink RL 142 yX7_run ∈ ww_GW := ww_gw (List.mem_of_getElem? (i := 1125) (by decide +kernel)) rfl
theorem wm_1126 : Cond.instanceMethod yX7_run ∈ ww_GW := ww_gw (List.mem_of_getElem? (i := 1126) (by decide +kernel)) rfl
theorem wm_1127 : Cond.selects RX7 yX7_run yX7_run ∈ ww_GW := ww_gw (List.mem_of_getElem? (i := 1127) (by decide +kernel)) rfl
theorem wk_L_142 : ww_vir RL 142 wy_X7_run 3 := ⟨wc_X7_run, rfl, wm_1125, wm_1126, wm_1127⟩
theorem wm_1132 : ww_hd wy_X7_kindCode ∈ ww_GW := ww_gw (List.mem_of_getElem? (i := 1132) (by decide +kernel)) rfl
theorem wc_X7_kindCode : ww_cal wy_X7_kindCode 2 := ⟨wm_1132, wm_54, ⟨by decide +kernel, by decide +kernel⟩, by decide +kernel, by decide⟩
theorem wm_1129 : Cond.methodLink RX7 148 yX7_kindCode ∈ ww_GW := ww_gw (List.mem_of_getElem? (i := 1129) (by decide +kernel)) rfl
theorem wm_1131 : Cond.instanceMethod yX7_kindCode ∈ ww_GW := ww_gw (List.mem_of_getElem? (i := 1131) (by decide +kernel)) rfl
theorem wm_31 : Cond.selects RX7 yX7_kindCode yX7_kindCode ∈ ww_GW := ww_gw (List.mem_of_getElem? (i := 31) (by decide +kernel)) rfl
theorem wk_X7_148 : ww_vir RX7 148 wy_X7_kindCode 2 := ⟨wc_X7_kindCode, rfl, wm_1129, wm_1131, wm_31⟩
theorem wm_1136 : ww_hd wy_X7_isIn ∈ ww_GW := ww_gw (List.mem_of_getElem? (i := 1136) (by decide +kernel)) rfl
theorem wc_X7_isIn : ww_cal wy_X7_isIn 2 := ⟨wm_1136, wm_54, ⟨by decide +kernel, by decide +kernel⟩, by decide +kernel, by decide⟩
theorem wm_1133 : Cond.methodLink RX7 151 yX7_isIn ∈ ww_GW := ww_gw (List.mem_of_getElem? (i := 1133) (by decide +kernel)) rfl
theorem wm_1135 : Cond.instanceMethod yX7_isIn ∈ ww_GW := ww_gw (List.mem_of_getElem? (i := 1135) (by decide +kernel)) rfl
theorem wm_32 : Cond.selects RX7 yX7_isIn yX7_isIn ∈ ww_GW := ww_gw (List.mem_of_getElem? (i := 32) (by decide +kernel)) rfl
theorem wk_X7_151 : ww_vir RX7 151 wy_X7_isIn 2 := ⟨wc_X7_isIn, rfl, wm_1133, wm_1135, wm_32⟩
theorem wm_1140 : ww_hd wy_X7_goes ∈ ww_GW := ww_gw (List.mem_of_getElem? (i := 1140) (by decide +kernel)) rfl
theorem wc_X7_goes : ww_cal wy_X7_goes 3 := ⟨wm_1140, wm_54, ⟨by decide +kernel, by decide +kernel⟩, by decide +kernel, by decide⟩
theorem wm_1137 : Cond.methodLink RX7 155 yX7_goes ∈ ww_GW := ww_gw (List.mem_of_getElem? (i := 1137) (by decide +kernel)) rfl
theorem wm_1139 : Cond.instanceMethod yX7_goes ∈ ww_GW := ww_gw (List.mem_of_getElem? (i := 1139) (by decide +kernel)) rfl
theorem wm_33 : Cond.selects RX7 yX7_goes yX7_goes ∈ ww_GW := ww_gw (List.mem_of_getElem? (i := 33) (by decide +kernel)) rfl
theorem wk_X7_155 : ww_vir RX7 155 wy_X7_goes 3 := ⟨wc_X7_goes, rfl, wm_1137, wm_1139, wm_33⟩
theorem wm_1143 : ww_hd wy_X7_factor ∈ ww_GW := ww_gw (List.mem_of_getElem? (i := 1143) (by decide +kernel)) rfl
theorem wc_X7_factor : ww_cal wy_X7_factor 1 := ⟨wm_1143, wm_54, ⟨by decide +kernel, by decide +kernel⟩, by decide +kernel, by decide⟩
theorem wm_1141 : Cond.methodLink RX7 145 yX7_factor ∈ ww_GW := ww_gw (List.mem_of_getElem? (i := 1141) (by decide +kernel)) rfl
theorem wm_1142 : Cond.static yX7_factor ∈ ww_GW := ww_gw (List.mem_of_getElem? (i := 1142) (by decide +kernel)) rfl
theorem wk_X7_145 : ww_sta RX7 145 wy_X7_factor 1 := ⟨wc_X7_factor, wm_1141, wm_1142⟩
theorem wm_1147 : ww_hd wy_X7_turn ∈ ww_GW := ww_gw (List.mem_of_getElem? (i := 1147) (by decide +kernel)) rfl
theorem wc_X7_turn : ww_cal wy_X7_turn 1 := ⟨wm_1147, wm_54, ⟨by decide +kernel, by decide +kernel⟩, by decide +kernel, by decide⟩
theorem wm_1144 : Cond.methodLink RL 145 yX7_turn ∈ ww_GW := ww_gw (List.mem_of_getElem? (i := 1144) (by decide +kernel)) rfl
theorem wm_1145 : Cond.instanceMethod yX7_turn ∈ ww_GW := ww_gw (List.mem_of_getElem? (i := 1145) (by decide +kernel)) rfl
theorem wm_1146 : Cond.selects RX7 yX7_turn yX7_turn ∈ ww_GW := ww_gw (List.mem_of_getElem? (i := 1146) (by decide +kernel)) rfl
theorem wk_L_145 : ww_vir RL 145 wy_X7_turn 1 := ⟨wc_X7_turn, rfl, wm_1144, wm_1145, wm_1146⟩
theorem wm_1151 : ww_hd wy_X7_wheelsetOf ∈ ww_GW := ww_gw (List.mem_of_getElem? (i := 1151) (by decide +kernel)) rfl
theorem wc_X7_wheelsetOf : ww_cal wy_X7_wheelsetOf 2 := ⟨wm_1151, wm_54, ⟨by decide +kernel, by decide +kernel⟩, by decide +kernel, by decide⟩
theorem wm_1148 : Cond.methodLink RX7 159 yX7_wheelsetOf ∈ ww_GW := ww_gw (List.mem_of_getElem? (i := 1148) (by decide +kernel)) rfl
theorem wm_1150 : Cond.instanceMethod yX7_wheelsetOf ∈ ww_GW := ww_gw (List.mem_of_getElem? (i := 1150) (by decide +kernel)) rfl
theorem wm_34 : Cond.selects RX7 yX7_wheelsetOf yX7_wheelsetOf ∈ ww_GW := ww_gw (List.mem_of_getElem? (i := 34) (by decide +kernel)) rfl
theorem wk_X7_159 : ww_vir RX7 159 wy_X7_wheelsetOf 2 := ⟨wc_X7_wheelsetOf, rfl, wm_1148, wm_1150, wm_34⟩
theorem wm_1155 : ww_hd wy_X7_trues ∈ ww_GW := ww_gw (List.mem_of_getElem? (i := 1155) (by decide +kernel)) rfl
theorem wc_X7_trues : ww_cal wy_X7_trues 1 := ⟨wm_1155, wm_54, ⟨by decide +kernel, by decide +kernel⟩, by decide +kernel, by decide⟩
theorem wm_1152 : Cond.methodLink RX7 163 yX7_trues ∈ ww_GW := ww_gw (List.mem_of_getElem? (i := 1152) (by decide +kernel)) rfl
theorem wm_1154 : Cond.instanceMethod yX7_trues ∈ ww_GW := ww_gw (List.mem_of_getElem? (i := 1154) (by decide +kernel)) rfl
theorem wm_35 : Cond.selects RX7 yX7_trues yX7_trues ∈ ww_GW := ww_gw (List.mem_of_getElem? (i := 35) (by decide +kernel)) rfl
theorem wk_X7_163 : ww_vir RX7 163 wy_X7_trues 1 := ⟨wc_X7_trues, rfl, wm_1152, wm_1154, wm_35⟩
theorem wm_1159 : ww_hd wy_X7_gate ∈ ww_GW := ww_gw (List.mem_of_getElem? (i := 1159) (by decide +kernel)) rfl
theorem wc_X7_gate : ww_cal wy_X7_gate 2 := ⟨wm_1159, wm_54, ⟨by decide +kernel, by decide +kernel⟩, by decide +kernel, by decide⟩
theorem wm_1156 : Cond.methodLink RL 148 yX7_gate ∈ ww_GW := ww_gw (List.mem_of_getElem? (i := 1156) (by decide +kernel)) rfl
theorem wm_1157 : Cond.instanceMethod yX7_gate ∈ ww_GW := ww_gw (List.mem_of_getElem? (i := 1157) (by decide +kernel)) rfl
theorem wm_1158 : Cond.selects RX7 yX7_gate yX7_gate ∈ ww_GW := ww_gw (List.mem_of_getElem? (i := 1158) (by decide +kernel)) rfl
theorem wk_L_148 : ww_vir RL 148 wy_X7_gate 2 := ⟨wc_X7_gate, rfl, wm_1156, wm_1157, wm_1158⟩
theorem wm_1163 : ww_hd wy_X7_examine ∈ ww_GW := ww_gw (List.mem_of_getElem? (i := 1163) (by decide +kernel)) rfl
theorem wc_X7_examine : ww_cal wy_X7_examine 1 := ⟨wm_1163, wm_54, ⟨by decide +kernel, by decide +kernel⟩, by decide +kernel, by decide⟩
theorem wm_1160 : Cond.methodLink RL 151 yX7_examine ∈ ww_GW := ww_gw (List.mem_of_getElem? (i := 1160) (by decide +kernel)) rfl
theorem wm_1161 : Cond.instanceMethod yX7_examine ∈ ww_GW := ww_gw (List.mem_of_getElem? (i := 1161) (by decide +kernel)) rfl
theorem wm_1162 : Cond.selects RX7 yX7_examine yX7_examine ∈ ww_GW := ww_gw (List.mem_of_getElem? (i := 1162) (by decide +kernel)) rfl
theorem wk_L_151 : ww_vir RL 151 wy_X7_examine 1 := ⟨wc_X7_examine, rfl, wm_1160, wm_1161, wm_1162⟩
theorem wm_1167 : ww_hd wy_X7_waive ∈ ww_GW := ww_gw (List.mem_of_getElem? (i := 1167) (by decide +kernel)) rfl
theorem wc_X7_waive : ww_cal wy_X7_waive 2 := ⟨wm_1167, wm_54, ⟨by decide +kernel, by decide +kernel⟩, by decide +kernel, by decide⟩
theorem wm_1164 : Cond.methodLink RL 155 yX7_waive ∈ ww_GW := ww_gw (List.mem_of_getElem? (i := 1164) (by decide +kernel)) rfl
theorem wm_1165 : Cond.instanceMethod yX7_waive ∈ ww_GW := ww_gw (List.mem_of_getElem? (i := 1165) (by decide +kernel)) rfl
theorem wm_1166 : Cond.selects RX7 yX7_waive yX7_waive ∈ ww_GW := ww_gw (List.mem_of_getElem? (i := 1166) (by decide +kernel)) rfl
theorem wk_L_155 : ww_vir RL 155 wy_X7_waive 2 := ⟨wc_X7_waive, rfl, wm_1164, wm_1165, wm_1166⟩
theorem wm_1171 : ww_hd wy_X7_flaw ∈ ww_GW := ww_gw (List.mem_of_getElem? (i := 1171) (by decide +kernel)) rfl
theorem wc_X7_flaw : ww_cal wy_X7_flaw 2 := ⟨wm_1171, wm_54, ⟨by decide +kernel, by decide +kernel⟩, by decide +kernel, by decide⟩
theorem wm_1168 : Cond.methodLink RL 158 yX7_flaw ∈ ww_GW := ww_gw (List.mem_of_getElem? (i := 1168) (by decide +kernel)) rfl
theorem wm_1169 : Cond.instanceMethod yX7_flaw ∈ ww_GW := ww_gw (List.mem_of_getElem? (i := 1169) (by decide +kernel)) rfl
theorem wm_1170 : Cond.selects RX7 yX7_flaw yX7_flaw ∈ ww_GW := ww_gw (List.mem_of_getElem? (i := 1170) (by decide +kernel)) rfl
theorem wk_L_158 : ww_vir RL 158 wy_X7_flaw 2 := ⟨wc_X7_flaw, rfl, wm_1168, wm_1169, wm_1170⟩
theorem wm_1175 : ww_hd wy_X7_look ∈ ww_GW := ww_gw (List.mem_of_getElem? (i := 1175) (by decide +kernel)) rfl
theorem wc_X7_look : ww_cal wy_X7_look 2 := ⟨wm_1175, wm_54, ⟨by decide +kernel, by decide +kernel⟩, by decide +kernel, by decide⟩
theorem wm_1172 : Cond.methodLink RL 162 yX7_look ∈ ww_GW := ww_gw (List.mem_of_getElem? (i := 1172) (by decide +kernel)) rfl
theorem wm_1173 : Cond.instanceMethod yX7_look ∈ ww_GW := ww_gw (List.mem_of_getElem? (i := 1173) (by decide +kernel)) rfl
theorem wm_1174 : Cond.selects RX7 yX7_look yX7_look ∈ ww_GW := ww_gw (List.mem_of_getElem? (i := 1174) (by decide +kernel)) rfl
theorem wk_L_162 : ww_vir RL 162 wy_X7_look 2 := ⟨wc_X7_look, rfl, wm_1172, wm_1173, wm_1174⟩
theorem wm_1179 : ww_hd wy_X7_holds ∈ ww_GW := ww_gw (List.mem_of_getElem? (i := 1179) (by decide +kernel)) rfl
theorem wc_X7_holds : ww_cal wy_X7_holds 1 := ⟨wm_1179, wm_54, ⟨by decide +kernel, by decide +kernel⟩, by decide +kernel, by decide⟩
theorem wm_1176 : Cond.methodLink RX7 166 yX7_holds ∈ ww_GW := ww_gw (List.mem_of_getElem? (i := 1176) (by decide +kernel)) rfl
theorem wm_1178 : Cond.instanceMethod yX7_holds ∈ ww_GW := ww_gw (List.mem_of_getElem? (i := 1178) (by decide +kernel)) rfl
theorem wm_36 : Cond.selects RX7 yX7_holds yX7_holds ∈ ww_GW := ww_gw (List.mem_of_getElem? (i := 36) (by decide +kernel)) rfl
theorem wk_X7_166 : ww_vir RX7 166 wy_X7_holds 1 := ⟨wc_X7_holds, rfl, wm_1176, wm_1178, wm_36⟩
theorem wm_1183 : ww_hd wy_X7_clear ∈ ww_GW := ww_gw (List.mem_of_getElem? (i := 1183) (by decide +kernel)) rfl
theorem wc_X7_clear : ww_cal wy_X7_clear 1 := ⟨wm_1183, wm_54, ⟨by decide +kernel, by decide +kernel⟩, by decide +kernel, by decide⟩
theorem wm_1180 : Cond.methodLink RL 165 yX7_clear ∈ ww_GW := ww_gw (List.mem_of_getElem? (i := 1180) (by decide +kernel)) rfl
theorem wm_1181 : Cond.instanceMethod yX7_clear ∈ ww_GW := ww_gw (List.mem_of_getElem? (i := 1181) (by decide +kernel)) rfl
theorem wm_1182 : Cond.selects RX7 yX7_clear yX7_clear ∈ ww_GW := ww_gw (List.mem_of_getElem? (i := 1182) (by decide +kernel)) rfl
theorem wk_L_165 : ww_vir RL 165 wy_X7_clear 1 := ⟨wc_X7_clear, rfl, wm_1180, wm_1181, wm_1182⟩
theorem wm_1187 : ww_hd wy_X7_recall ∈ ww_GW := ww_gw (List.mem_of_getElem? (i := 1187) (by decide +kernel)) rfl
theorem wc_X7_recall : ww_cal wy_X7_recall 1 := ⟨wm_1187, wm_54, ⟨by decide +kernel, by decide +kernel⟩, by decide +kernel, by decide⟩
theorem wm_1184 : Cond.methodLink RL 168 yX7_recall ∈ ww_GW := ww_gw (List.mem_of_getElem? (i := 1184) (by decide +kernel)) rfl
theorem wm_1185 : Cond.instanceMethod yX7_recall ∈ ww_GW := ww_gw (List.mem_of_getElem? (i := 1185) (by decide +kernel)) rfl
theorem wm_1186 : Cond.selects RX7 yX7_recall yX7_recall ∈ ww_GW := ww_gw (List.mem_of_getElem? (i := 1186) (by decide +kernel)) rfl
theorem wk_L_168 : ww_vir RL 168 wy_X7_recall 1 := ⟨wc_X7_recall, rfl, wm_1184, wm_1185, wm_1186⟩
theorem wm_1191 : ww_hd wy_X7_release ∈ ww_GW := ww_gw (List.mem_of_getElem? (i := 1191) (by decide +kernel)) rfl
theorem wc_X7_release : ww_cal wy_X7_release 1 := ⟨wm_1191, wm_54, ⟨by decide +kernel, by decide +kernel⟩, by decide +kernel, by decide⟩
theorem wm_1188 : Cond.methodLink RL 171 yX7_release ∈ ww_GW := ww_gw (List.mem_of_getElem? (i := 1188) (by decide +kernel)) rfl
theorem wm_1189 : Cond.instanceMethod yX7_release ∈ ww_GW := ww_gw (List.mem_of_getElem? (i := 1189) (by decide +kernel)) rfl
theorem wm_1190 : Cond.selects RX7 yX7_release yX7_release ∈ ww_GW := ww_gw (List.mem_of_getElem? (i := 1190) (by decide +kernel)) rfl
theorem wk_L_171 : ww_vir RL 171 wy_X7_release 1 := ⟨wc_X7_release, rfl, wm_1188, wm_1189, wm_1190⟩
theorem wm_1195 : ww_hd wy_X7_barOf ∈ ww_GW := ww_gw (List.mem_of_getElem? (i := 1195) (by decide +kernel)) rfl
theorem wc_X7_barOf : ww_cal wy_X7_barOf 1 := ⟨wm_1195, wm_54, ⟨by decide +kernel, by decide +kernel⟩, by decide +kernel, by decide⟩
theorem wm_1192 : Cond.methodLink RX7 186 yX7_barOf ∈ ww_GW := ww_gw (List.mem_of_getElem? (i := 1192) (by decide +kernel)) rfl
theorem wm_1194 : Cond.instanceMethod yX7_barOf ∈ ww_GW := ww_gw (List.mem_of_getElem? (i := 1194) (by decide +kernel)) rfl
theorem wm_37 : Cond.selects RX7 yX7_barOf yX7_barOf ∈ ww_GW := ww_gw (List.mem_of_getElem? (i := 37) (by decide +kernel)) rfl
theorem wk_X7_186 : ww_vir RX7 186 wy_X7_barOf 1 := ⟨wc_X7_barOf, rfl, wm_1192, wm_1194, wm_37⟩
theorem wm_1199 : ww_hd wy_X7_barsBy ∈ ww_GW := ww_gw (List.mem_of_getElem? (i := 1199) (by decide +kernel)) rfl
theorem wc_X7_barsBy : ww_cal wy_X7_barsBy 2 := ⟨wm_1199, wm_54, ⟨by decide +kernel, by decide +kernel⟩, by decide +kernel, by decide⟩
theorem wm_1196 : Cond.methodLink RX7 183 yX7_barsBy ∈ ww_GW := ww_gw (List.mem_of_getElem? (i := 1196) (by decide +kernel)) rfl
theorem wm_1198 : Cond.instanceMethod yX7_barsBy ∈ ww_GW := ww_gw (List.mem_of_getElem? (i := 1198) (by decide +kernel)) rfl
theorem wm_38 : Cond.selects RX7 yX7_barsBy yX7_barsBy ∈ ww_GW := ww_gw (List.mem_of_getElem? (i := 38) (by decide +kernel)) rfl
theorem wk_X7_183 : ww_vir RX7 183 wy_X7_barsBy 2 := ⟨wc_X7_barsBy, rfl, wm_1196, wm_1198, wm_38⟩
theorem wm_1203 : ww_hd wy_X7_hasEmpty ∈ ww_GW := ww_gw (List.mem_of_getElem? (i := 1203) (by decide +kernel)) rfl
theorem wc_X7_hasEmpty : ww_cal wy_X7_hasEmpty 1 := ⟨wm_1203, wm_54, ⟨by decide +kernel, by decide +kernel⟩, by decide +kernel, by decide⟩
theorem wm_1200 : Cond.methodLink RX7 171 yX7_hasEmpty ∈ ww_GW := ww_gw (List.mem_of_getElem? (i := 1200) (by decide +kernel)) rfl
theorem wm_1202 : Cond.instanceMethod yX7_hasEmpty ∈ ww_GW := ww_gw (List.mem_of_getElem? (i := 1202) (by decide +kernel)) rfl
theorem wm_39 : Cond.selects RX7 yX7_hasEmpty yX7_hasEmpty ∈ ww_GW := ww_gw (List.mem_of_getElem? (i := 39) (by decide +kernel)) rfl
theorem wk_X7_171 : ww_vir RX7 171 wy_X7_hasEmpty 1 := ⟨wc_X7_hasEmpty, rfl, wm_1200, wm_1202, wm_39⟩
theorem wm_1207 : ww_hd wy_X7_isWorn ∈ ww_GW := ww_gw (List.mem_of_getElem? (i := 1207) (by decide +kernel)) rfl
theorem wc_X7_isWorn : ww_cal wy_X7_isWorn 1 := ⟨wm_1207, wm_54, ⟨by decide +kernel, by decide +kernel⟩, by decide +kernel, by decide⟩
theorem wm_1204 : Cond.methodLink RX7 174 yX7_isWorn ∈ ww_GW := ww_gw (List.mem_of_getElem? (i := 1204) (by decide +kernel)) rfl
theorem wm_1206 : Cond.instanceMethod yX7_isWorn ∈ ww_GW := ww_gw (List.mem_of_getElem? (i := 1206) (by decide +kernel)) rfl
theorem wm_40 : Cond.selects RX7 yX7_isWorn yX7_isWorn ∈ ww_GW := ww_gw (List.mem_of_getElem? (i := 40) (by decide +kernel)) rfl
theorem wk_X7_174 : ww_vir RX7 174 wy_X7_isWorn 1 := ⟨wc_X7_isWorn, rfl, wm_1204, wm_1206, wm_40⟩
theorem wm_1211 : ww_hd wy_X7_apartIn ∈ ww_GW := ww_gw (List.mem_of_getElem? (i := 1211) (by decide +kernel)) rfl
theorem wc_X7_apartIn : ww_cal wy_X7_apartIn 1 := ⟨wm_1211, wm_54, ⟨by decide +kernel, by decide +kernel⟩, by decide +kernel, by decide⟩
theorem wm_1208 : Cond.methodLink RX7 177 yX7_apartIn ∈ ww_GW := ww_gw (List.mem_of_getElem? (i := 1208) (by decide +kernel)) rfl
theorem wm_1210 : Cond.instanceMethod yX7_apartIn ∈ ww_GW := ww_gw (List.mem_of_getElem? (i := 1210) (by decide +kernel)) rfl
theorem wm_41 : Cond.selects RX7 yX7_apartIn yX7_apartIn ∈ ww_GW := ww_gw (List.mem_of_getElem? (i := 41) (by decide +kernel)) rfl
theorem wk_X7_177 : ww_vir RX7 177 wy_X7_apartIn 1 := ⟨wc_X7_apartIn, rfl, wm_1208, wm_1210, wm_41⟩
theorem wm_1217 : ww_hd wy_X7_isDue ∈ ww_GW := ww_gw (List.mem_of_getElem? (i := 1217) (by decide +kernel)) rfl
theorem wc_X7_isDue : ww_cal wy_X7_isDue 1 := ⟨wm_1217, wm_54, ⟨by decide +kernel, by decide +kernel⟩, by decide +kernel, by decide⟩
theorem wm_1214 : Cond.methodLink RX7 180 yX7_isDue ∈ ww_GW := ww_gw (List.mem_of_getElem? (i := 1214) (by decide +kernel)) rfl
theorem wm_1216 : Cond.instanceMethod yX7_isDue ∈ ww_GW := ww_gw (List.mem_of_getElem? (i := 1216) (by decide +kernel)) rfl
theorem wm_42 : Cond.selects RX7 yX7_isDue yX7_isDue ∈ ww_GW := ww_gw (List.mem_of_getElem? (i := 42) (by decide +kernel)) rfl
theorem wk_X7_180 : ww_vir RX7 180 wy_X7_isDue 1 := ⟨wc_X7_isDue, rfl, wm_1214, wm_1216, wm_42⟩
theorem wm_1221 : ww_hd wy_X7_comes ∈ ww_GW := ww_gw (List.mem_of_getElem? (i := 1221) (by decide +kernel)) rfl
theorem wc_X7_comes : ww_cal wy_X7_comes 2 := ⟨wm_1221, wm_54, ⟨by decide +kernel, by decide +kernel⟩, by decide +kernel, by decide⟩
theorem wm_1218 : Cond.methodLink RL 174 yX7_comes ∈ ww_GW := ww_gw (List.mem_of_getElem? (i := 1218) (by decide +kernel)) rfl
theorem wm_1219 : Cond.instanceMethod yX7_comes ∈ ww_GW := ww_gw (List.mem_of_getElem? (i := 1219) (by decide +kernel)) rfl
theorem wm_1220 : Cond.selects RX7 yX7_comes yX7_comes ∈ ww_GW := ww_gw (List.mem_of_getElem? (i := 1220) (by decide +kernel)) rfl
theorem wk_L_174 : ww_vir RL 174 wy_X7_comes 2 := ⟨wc_X7_comes, rfl, wm_1218, wm_1219, wm_1220⟩
theorem wm_1225 : ww_hd wy_X7_night ∈ ww_GW := ww_gw (List.mem_of_getElem? (i := 1225) (by decide +kernel)) rfl
theorem wc_X7_night : ww_cal wy_X7_night 0 := ⟨wm_1225, wm_54, ⟨by decide +kernel, by decide +kernel⟩, by decide +kernel, by decide⟩
theorem wm_1222 : Cond.methodLink RL 178 yX7_night ∈ ww_GW := ww_gw (List.mem_of_getElem? (i := 1222) (by decide +kernel)) rfl
theorem wm_1223 : Cond.instanceMethod yX7_night ∈ ww_GW := ww_gw (List.mem_of_getElem? (i := 1223) (by decide +kernel)) rfl
theorem wm_1224 : Cond.selects RX7 yX7_night yX7_night ∈ ww_GW := ww_gw (List.mem_of_getElem? (i := 1224) (by decide +kernel)) rfl
theorem wk_L_178 : ww_vir RL 178 wy_X7_night 0 := ⟨wc_X7_night, rfl, wm_1222, wm_1223, wm_1224⟩
theorem wm_1229 : ww_hd wy_X7_plans ∈ ww_GW := ww_gw (List.mem_of_getElem? (i := 1229) (by decide +kernel)) rfl
theorem wc_X7_plans : ww_cal wy_X7_plans 0 := ⟨wm_1229, wm_54, ⟨by decide +kernel, by decide +kernel⟩, by decide +kernel, by decide⟩
theorem wm_1226 : Cond.methodLink RX7 193 yX7_plans ∈ ww_GW := ww_gw (List.mem_of_getElem? (i := 1226) (by decide +kernel)) rfl
theorem wm_1228 : Cond.instanceMethod yX7_plans ∈ ww_GW := ww_gw (List.mem_of_getElem? (i := 1228) (by decide +kernel)) rfl
theorem wm_43 : Cond.selects RX7 yX7_plans yX7_plans ∈ ww_GW := ww_gw (List.mem_of_getElem? (i := 43) (by decide +kernel)) rfl
theorem wk_X7_193 : ww_vir RX7 193 wy_X7_plans 0 := ⟨wc_X7_plans, rfl, wm_1226, wm_1228, wm_43⟩
theorem wm_1233 : ww_hd wy_X7_movesOf ∈ ww_GW := ww_gw (List.mem_of_getElem? (i := 1233) (by decide +kernel)) rfl
theorem wc_X7_movesOf : ww_cal wy_X7_movesOf 0 := ⟨wm_1233, wm_54, ⟨by decide +kernel, by decide +kernel⟩, by decide +kernel, by decide⟩
theorem wm_1230 : Cond.methodLink RX7 189 yX7_movesOf ∈ ww_GW := ww_gw (List.mem_of_getElem? (i := 1230) (by decide +kernel)) rfl
theorem wm_1232 : Cond.instanceMethod yX7_movesOf ∈ ww_GW := ww_gw (List.mem_of_getElem? (i := 1232) (by decide +kernel)) rfl
theorem wm_44 : Cond.selects RX7 yX7_movesOf yX7_movesOf ∈ ww_GW := ww_gw (List.mem_of_getElem? (i := 44) (by decide +kernel)) rfl
theorem wk_X7_189 : ww_vir RX7 189 wy_X7_movesOf 0 := ⟨wc_X7_movesOf, rfl, wm_1230, wm_1232, wm_44⟩
theorem wm_1237 : ww_hd wy_X7_out ∈ ww_GW := ww_gw (List.mem_of_getElem? (i := 1237) (by decide +kernel)) rfl
theorem wc_X7_out : ww_cal wy_X7_out 0 := ⟨wm_1237, wm_54, ⟨by decide +kernel, by decide +kernel⟩, by decide +kernel, by decide⟩
theorem wm_1234 : Cond.methodLink RL 181 yX7_out ∈ ww_GW := ww_gw (List.mem_of_getElem? (i := 1234) (by decide +kernel)) rfl
theorem wm_1235 : Cond.instanceMethod yX7_out ∈ ww_GW := ww_gw (List.mem_of_getElem? (i := 1235) (by decide +kernel)) rfl
theorem wm_1236 : Cond.selects RX7 yX7_out yX7_out ∈ ww_GW := ww_gw (List.mem_of_getElem? (i := 1236) (by decide +kernel)) rfl
theorem wk_L_181 : ww_vir RL 181 wy_X7_out 0 := ⟨wc_X7_out, rfl, wm_1234, wm_1235, wm_1236⟩
theorem wm_1241 : ww_hd wy_X7_host ∈ ww_GW := ww_gw (List.mem_of_getElem? (i := 1241) (by decide +kernel)) rfl
theorem wc_X7_host : ww_cal wy_X7_host 1 := ⟨wm_1241, wm_54, ⟨by decide +kernel, by decide +kernel⟩, by decide +kernel, by decide⟩
theorem wm_1238 : Cond.methodLink RL 184 yX7_host ∈ ww_GW := ww_gw (List.mem_of_getElem? (i := 1238) (by decide +kernel)) rfl
theorem wm_1239 : Cond.instanceMethod yX7_host ∈ ww_GW := ww_gw (List.mem_of_getElem? (i := 1239) (by decide +kernel)) rfl
theorem wm_1240 : Cond.selects RX7 yX7_host yX7_host ∈ ww_GW := ww_gw (List.mem_of_getElem? (i := 1240) (by decide +kernel)) rfl
theorem wk_L_184 : ww_vir RL 184 wy_X7_host 1 := ⟨wc_X7_host, rfl, wm_1238, wm_1239, wm_1240⟩
theorem wm_1245 : ww_hd wy_X7_head ∈ ww_GW := ww_gw (List.mem_of_getElem? (i := 1245) (by decide +kernel)) rfl
theorem wc_X7_head : ww_cal wy_X7_head 1 := ⟨wm_1245, wm_54, ⟨by decide +kernel, by decide +kernel⟩, by decide +kernel, by decide⟩
theorem wm_1242 : Cond.methodLink RL 187 yX7_head ∈ ww_GW := ww_gw (List.mem_of_getElem? (i := 1242) (by decide +kernel)) rfl
theorem wm_1243 : Cond.instanceMethod yX7_head ∈ ww_GW := ww_gw (List.mem_of_getElem? (i := 1243) (by decide +kernel)) rfl
theorem wm_1244 : Cond.selects RX7 yX7_head yX7_head ∈ ww_GW := ww_gw (List.mem_of_getElem? (i := 1244) (by decide +kernel)) rfl
theorem wk_L_187 : ww_vir RL 187 wy_X7_head 1 := ⟨wc_X7_head, rfl, wm_1242, wm_1243, wm_1244⟩
theorem wm_1249 : ww_hd wy_X7_ofPart ∈ ww_GW := ww_gw (List.mem_of_getElem? (i := 1249) (by decide +kernel)) rfl
theorem wc_X7_ofPart : ww_cal wy_X7_ofPart 2 := ⟨wm_1249, wm_54, ⟨by decide +kernel, by decide +kernel⟩, by decide +kernel, by decide⟩
theorem wm_1246 : Cond.methodLink RL 190 yX7_ofPart ∈ ww_GW := ww_gw (List.mem_of_getElem? (i := 1246) (by decide +kernel)) rfl
theorem wm_1247 : Cond.instanceMethod yX7_ofPart ∈ ww_GW := ww_gw (List.mem_of_getElem? (i := 1247) (by decide +kernel)) rfl
theorem wm_1248 : Cond.selects RX7 yX7_ofPart yX7_ofPart ∈ ww_GW := ww_gw (List.mem_of_getElem? (i := 1248) (by decide +kernel)) rfl
theorem wk_L_190 : ww_vir RL 190 wy_X7_ofPart 2 := ⟨wc_X7_ofPart, rfl, wm_1246, wm_1247, wm_1248⟩
theorem wm_1253 : ww_hd wy_X7_movesOfPart ∈ ww_GW := ww_gw (List.mem_of_getElem? (i := 1253) (by decide +kernel)) rfl
theorem wc_X7_movesOfPart : ww_cal wy_X7_movesOfPart 1 := ⟨wm_1253, wm_54, ⟨by decide +kernel, by decide +kernel⟩, by decide +kernel, by decide⟩
theorem wm_1250 : Cond.methodLink RX7 196 yX7_movesOfPart ∈ ww_GW := ww_gw (List.mem_of_getElem? (i := 1250) (by decide +kernel)) rfl
theorem wm_1252 : Cond.instanceMethod yX7_movesOfPart ∈ ww_GW := ww_gw (List.mem_of_getElem? (i := 1252) (by decide +kernel)) rfl
theorem wm_45 : Cond.selects RX7 yX7_movesOfPart yX7_movesOfPart ∈ ww_GW := ww_gw (List.mem_of_getElem? (i := 45) (by decide +kernel)) rfl
theorem wk_X7_196 : ww_vir RX7 196 wy_X7_movesOfPart 1 := ⟨wc_X7_movesOfPart, rfl, wm_1250, wm_1252, wm_45⟩
theorem wm_1257 : ww_hd wy_X7_trace ∈ ww_GW := ww_gw (List.mem_of_getElem? (i := 1257) (by decide +kernel)) rfl
theorem wc_X7_trace : ww_cal wy_X7_trace 2 := ⟨wm_1257, wm_54, ⟨by decide +kernel, by decide +kernel⟩, by decide +kernel, by decide⟩
theorem wm_1254 : Cond.methodLink RL 193 yX7_trace ∈ ww_GW := ww_gw (List.mem_of_getElem? (i := 1254) (by decide +kernel)) rfl
theorem wm_1255 : Cond.instanceMethod yX7_trace ∈ ww_GW := ww_gw (List.mem_of_getElem? (i := 1255) (by decide +kernel)) rfl
theorem wm_1256 : Cond.selects RX7 yX7_trace yX7_trace ∈ ww_GW := ww_gw (List.mem_of_getElem? (i := 1256) (by decide +kernel)) rfl
theorem wk_L_193 : ww_vir RL 193 wy_X7_trace 2 := ⟨wc_X7_trace, rfl, wm_1254, wm_1255, wm_1256⟩
theorem wm_1261 : ww_hd wy_X7_lifeAnew ∈ ww_GW := ww_gw (List.mem_of_getElem? (i := 1261) (by decide +kernel)) rfl
theorem wc_X7_lifeAnew : ww_cal wy_X7_lifeAnew 1 := ⟨wm_1261, wm_54, ⟨by decide +kernel, by decide +kernel⟩, by decide +kernel, by decide⟩
theorem wm_1258 : Cond.methodLink RL 196 yX7_lifeAnew ∈ ww_GW := ww_gw (List.mem_of_getElem? (i := 1258) (by decide +kernel)) rfl
theorem wm_1259 : Cond.instanceMethod yX7_lifeAnew ∈ ww_GW := ww_gw (List.mem_of_getElem? (i := 1259) (by decide +kernel)) rfl
theorem wm_1260 : Cond.selects RX7 yX7_lifeAnew yX7_lifeAnew ∈ ww_GW := ww_gw (List.mem_of_getElem? (i := 1260) (by decide +kernel)) rfl
theorem wk_L_196 : ww_vir RL 196 wy_X7_lifeAnew 1 := ⟨wc_X7_lifeAnew, rfl, wm_1258, wm_1259, wm_1260⟩
theorem wm_1265 : ww_hd wy_X7_wheel ∈ ww_GW := ww_gw (List.mem_of_getElem? (i := 1265) (by decide +kernel)) rfl
theorem wc_X7_wheel : ww_cal wy_X7_wheel 2 := ⟨wm_1265, wm_54, ⟨by decide +kernel, by decide +kernel⟩, by decide +kernel, by decide⟩
theorem wm_1262 : Cond.methodLink RL 199 yX7_wheel ∈ ww_GW := ww_gw (List.mem_of_getElem? (i := 1262) (by decide +kernel)) rfl
theorem wm_1263 : Cond.instanceMethod yX7_wheel ∈ ww_GW := ww_gw (List.mem_of_getElem? (i := 1263) (by decide +kernel)) rfl
theorem wm_1264 : Cond.selects RX7 yX7_wheel yX7_wheel ∈ ww_GW := ww_gw (List.mem_of_getElem? (i := 1264) (by decide +kernel)) rfl
theorem wk_L_199 : ww_vir RL 199 wy_X7_wheel 2 := ⟨wc_X7_wheel, rfl, wm_1262, wm_1263, wm_1264⟩
theorem wm_1269 : ww_hd wy_X7_foretell ∈ ww_GW := ww_gw (List.mem_of_getElem? (i := 1269) (by decide +kernel)) rfl
theorem wc_X7_foretell : ww_cal wy_X7_foretell 3 := ⟨wm_1269, wm_54, ⟨by decide +kernel, by decide +kernel⟩, by decide +kernel, by decide⟩
theorem wm_1266 : Cond.methodLink RL 202 yX7_foretell ∈ ww_GW := ww_gw (List.mem_of_getElem? (i := 1266) (by decide +kernel)) rfl
theorem wm_1267 : Cond.instanceMethod yX7_foretell ∈ ww_GW := ww_gw (List.mem_of_getElem? (i := 1267) (by decide +kernel)) rfl
theorem wm_1268 : Cond.selects RX7 yX7_foretell yX7_foretell ∈ ww_GW := ww_gw (List.mem_of_getElem? (i := 1268) (by decide +kernel)) rfl
theorem wk_L_202 : ww_vir RL 202 wy_X7_foretell 3 := ⟨wc_X7_foretell, rfl, wm_1266, wm_1267, wm_1268⟩
theorem wm_1273 : ww_hd wy_X7_bars ∈ ww_GW := ww_gw (List.mem_of_getElem? (i := 1273) (by decide +kernel)) rfl
theorem wc_X7_bars : ww_cal wy_X7_bars 1 := ⟨wm_1273, wm_54, ⟨by decide +kernel, by decide +kernel⟩, by decide +kernel, by decide⟩
theorem wm_1270 : Cond.methodLink RL 205 yX7_bars ∈ ww_GW := ww_gw (List.mem_of_getElem? (i := 1270) (by decide +kernel)) rfl
theorem wm_1271 : Cond.instanceMethod yX7_bars ∈ ww_GW := ww_gw (List.mem_of_getElem? (i := 1271) (by decide +kernel)) rfl
theorem wm_1272 : Cond.selects RX7 yX7_bars yX7_bars ∈ ww_GW := ww_gw (List.mem_of_getElem? (i := 1272) (by decide +kernel)) rfl
theorem wk_L_205 : ww_vir RL 205 wy_X7_bars 1 := ⟨wc_X7_bars, rfl, wm_1270, wm_1271, wm_1272⟩
theorem wm_1277 : ww_hd wy_X7_barredBy ∈ ww_GW := ww_gw (List.mem_of_getElem? (i := 1277) (by decide +kernel)) rfl
theorem wc_X7_barredBy : ww_cal wy_X7_barredBy 1 := ⟨wm_1277, wm_54, ⟨by decide +kernel, by decide +kernel⟩, by decide +kernel, by decide⟩
theorem wm_1274 : Cond.methodLink RL 208 yX7_barredBy ∈ ww_GW := ww_gw (List.mem_of_getElem? (i := 1274) (by decide +kernel)) rfl
theorem wm_1275 : Cond.instanceMethod yX7_barredBy ∈ ww_GW := ww_gw (List.mem_of_getElem? (i := 1275) (by decide +kernel)) rfl
theorem wm_1276 : Cond.selects RX7 yX7_barredBy yX7_barredBy ∈ ww_GW := ww_gw (List.mem_of_getElem? (i := 1276) (by decide +kernel)) rfl
theorem wk_L_208 : ww_vir RL 208 wy_X7_barredBy 1 := ⟨wc_X7_barredBy, rfl, wm_1274, wm_1275, wm_1276⟩
theorem wm_1281 : ww_hd wy_X7_isReleased ∈ ww_GW := ww_gw (List.mem_of_getElem? (i := 1281) (by decide +kernel)) rfl
theorem wc_X7_isReleased : ww_cal wy_X7_isReleased 1 := ⟨wm_1281, wm_54, ⟨by decide +kernel, by decide +kernel⟩, by decide +kernel, by decide⟩
theorem wm_1278 : Cond.methodLink RL 211 yX7_isReleased ∈ ww_GW := ww_gw (List.mem_of_getElem? (i := 1278) (by decide +kernel)) rfl
theorem wm_1279 : Cond.instanceMethod yX7_isReleased ∈ ww_GW := ww_gw (List.mem_of_getElem? (i := 1279) (by decide +kernel)) rfl
theorem wm_1280 : Cond.selects RX7 yX7_isReleased yX7_isReleased ∈ ww_GW := ww_gw (List.mem_of_getElem? (i := 1280) (by decide +kernel)) rfl
theorem wk_L_211 : ww_vir RL 211 wy_X7_isReleased 1 := ⟨wc_X7_isReleased, rfl, wm_1278, wm_1279, wm_1280⟩
theorem wm_1285 : ww_hd wy_X7_plan ∈ ww_GW := ww_gw (List.mem_of_getElem? (i := 1285) (by decide +kernel)) rfl
theorem wc_X7_plan : ww_cal wy_X7_plan 0 := ⟨wm_1285, wm_54, ⟨by decide +kernel, by decide +kernel⟩, by decide +kernel, by decide⟩
theorem wm_1282 : Cond.methodLink RL 215 yX7_plan ∈ ww_GW := ww_gw (List.mem_of_getElem? (i := 1282) (by decide +kernel)) rfl
theorem wm_1283 : Cond.instanceMethod yX7_plan ∈ ww_GW := ww_gw (List.mem_of_getElem? (i := 1283) (by decide +kernel)) rfl
theorem wm_1284 : Cond.selects RX7 yX7_plan yX7_plan ∈ ww_GW := ww_gw (List.mem_of_getElem? (i := 1284) (by decide +kernel)) rfl
theorem wk_L_215 : ww_vir RL 215 wy_X7_plan 0 := ⟨wc_X7_plan, rfl, wm_1282, wm_1283, wm_1284⟩
theorem wm_1289 : ww_hd wy_X7_planAnew ∈ ww_GW := ww_gw (List.mem_of_getElem? (i := 1289) (by decide +kernel)) rfl
theorem wc_X7_planAnew : ww_cal wy_X7_planAnew 0 := ⟨wm_1289, wm_54, ⟨by decide +kernel, by decide +kernel⟩, by decide +kernel, by decide⟩
theorem wm_1286 : Cond.methodLink RL 219 yX7_planAnew ∈ ww_GW := ww_gw (List.mem_of_getElem? (i := 1286) (by decide +kernel)) rfl
theorem wm_1287 : Cond.instanceMethod yX7_planAnew ∈ ww_GW := ww_gw (List.mem_of_getElem? (i := 1287) (by decide +kernel)) rfl
theorem wm_1288 : Cond.selects RX7 yX7_planAnew yX7_planAnew ∈ ww_GW := ww_gw (List.mem_of_getElem? (i := 1288) (by decide +kernel)) rfl
theorem wk_L_219 : ww_vir RL 219 wy_X7_planAnew 0 := ⟨wc_X7_planAnew, rfl, wm_1286, wm_1287, wm_1288⟩
theorem wm_1293 : ww_hd wy_X7_road ∈ ww_GW := ww_gw (List.mem_of_getElem? (i := 1293) (by decide +kernel)) rfl
theorem wc_X7_road : ww_cal wy_X7_road 2 := ⟨wm_1293, wm_54, ⟨by decide +kernel, by decide +kernel⟩, by decide +kernel, by decide⟩
theorem wm_1290 : Cond.methodLink RL 222 yX7_road ∈ ww_GW := ww_gw (List.mem_of_getElem? (i := 1290) (by decide +kernel)) rfl
theorem wm_1291 : Cond.instanceMethod yX7_road ∈ ww_GW := ww_gw (List.mem_of_getElem? (i := 1291) (by decide +kernel)) rfl
theorem wm_1292 : Cond.selects RX7 yX7_road yX7_road ∈ ww_GW := ww_gw (List.mem_of_getElem? (i := 1292) (by decide +kernel)) rfl
theorem wk_L_222 : ww_vir RL 222 wy_X7_road 2 := ⟨wc_X7_road, rfl, wm_1290, wm_1291, wm_1292⟩
theorem wm_71 : Cond.classLink RL 8 "WheelWorks" ∈ ww_GW := ww_gw (List.mem_of_getElem? (i := 71) (by decide +kernel)) rfl
theorem wm_72 : Cond.instantiable RX6 4 ∈ ww_GW := ww_gw (List.mem_of_getElem? (i := 72) (by decide +kernel)) rfl
theorem wn_L_8 : ww_new RL 8 7 := ⟨(RX6, TX6, 4), tyX6, rfl, rfl, tyX6_ok, by decide +kernel, wu_7, wm_71, wm_72, wm_47⟩
theorem wm_79 : Cond.classLink RX6 7 "java/util/ArrayList" ∈ ww_GW := ww_gw (List.mem_of_getElem? (i := 79) (by decide +kernel)) rfl
theorem wm_80 : Cond.instantiable RJx4a65c 3 ∈ ww_GW := ww_gw (List.mem_of_getElem? (i := 80) (by decide +kernel)) rfl
theorem wn_X6_7 : ww_new RX6 7 0 := ⟨(RJx4a65c, TJx4a65c, 3), tyJx4a65c, rfl, rfl, tyJx4a65c_ok, by decide +kernel, wu_0, wm_79, wm_80, wm_50⟩
theorem wm_105 : Cond.classLink RX6 16 "WheelWorks$KindLimits" ∈ ww_GW := ww_gw (List.mem_of_getElem? (i := 105) (by decide +kernel)) rfl
theorem wm_149 : Cond.instantiable RX1 3 ∈ ww_GW := ww_gw (List.mem_of_getElem? (i := 149) (by decide +kernel)) rfl
theorem wn_X6_16 : ww_new RX6 16 2 := ⟨(RX1, TX1, 3), tyX1, rfl, rfl, tyX1_ok, by decide +kernel, wu_2, wm_105, wm_149, wm_53⟩
theorem wm_107 : Cond.classLink RX6 22 "WheelWorks$Log" ∈ ww_GW := ww_gw (List.mem_of_getElem? (i := 107) (by decide +kernel)) rfl
theorem wm_108 : Cond.instantiable RX2 2 ∈ ww_GW := ww_gw (List.mem_of_getElem? (i := 108) (by decide +kernel)) rfl
theorem wn_X6_22 : ww_new RX6 22 3 := ⟨(RX2, TX2, 2), tyX2, rfl, rfl, tyX2_ok, by decide +kernel, wu_3, wm_107, wm_108, wm_51⟩
theorem wm_113 : Cond.classLink RX2 9 "java/util/ArrayList" ∈ ww_GW := ww_gw (List.mem_of_getElem? (i := 113) (by decide +kernel)) rfl
theorem wn_X2_9 : ww_new RX2 9 0 := ⟨(RJx4a65c, TJx4a65c, 3), tyJx4a65c, rfl, rfl, tyJx4a65c_ok, by decide +kernel, wu_0, wm_113, wm_80, wm_50⟩
theorem wm_123 : Cond.classLink RX6 29 "WheelWorks$Yard" ∈ ww_GW := ww_gw (List.mem_of_getElem? (i := 123) (by decide +kernel)) rfl
theorem wm_124 : Cond.instantiable RX5 5 ∈ ww_GW := ww_gw (List.mem_of_getElem? (i := 124) (by decide +kernel)) rfl
theorem wn_X6_29 : ww_new RX6 29 6 := ⟨(RX5, TX5, 5), tyX5, rfl, rfl, tyX5_ok, by decide +kernel, wu_6, wm_123, wm_124, wm_52⟩
theorem wm_129 : Cond.classLink RX5 9 "java/util/ArrayList" ∈ ww_GW := ww_gw (List.mem_of_getElem? (i := 129) (by decide +kernel)) rfl
theorem wn_X5_9 : ww_new RX5 9 0 := ⟨(RJx4a65c, TJx4a65c, 3), tyJx4a65c, rfl, rfl, tyJx4a65c_ok, by decide +kernel, wu_0, wm_129, wm_80, wm_50⟩
theorem wm_209 : Cond.classLink RX5 33 "WheelWorks$Part" ∈ ww_GW := ww_gw (List.mem_of_getElem? (i := 209) (by decide +kernel)) rfl
theorem wm_342 : Cond.instantiable RX3 18 ∈ ww_GW := ww_gw (List.mem_of_getElem? (i := 342) (by decide +kernel)) rfl
theorem wn_X5_33 : ww_new RX5 33 4 := ⟨(RX3, TX3, 18), tyX3, rfl, rfl, tyX3_ok, by decide +kernel, wu_4, wm_209, wm_342, wm_60⟩
theorem wm_242 : Cond.classLink RL 13 "java/lang/IllegalArgumentException" ∈ ww_GW := ww_gw (List.mem_of_getElem? (i := 242) (by decide +kernel)) rfl
theorem wm_243 : Cond.classLink RL 15 "java/lang/IllegalStateException" ∈ ww_GW := ww_gw (List.mem_of_getElem? (i := 243) (by decide +kernel)) rfl
theorem wm_252 : Cond.classLink RX6 45 "java/lang/IllegalArgumentException" ∈ ww_GW := ww_gw (List.mem_of_getElem? (i := 252) (by decide +kernel)) rfl
theorem wm_325 : Cond.classLink RX6 56 "java/lang/IllegalStateException" ∈ ww_GW := ww_gw (List.mem_of_getElem? (i := 325) (by decide +kernel)) rfl
theorem wm_341 : Cond.classLink RX6 61 "WheelWorks$Part" ∈ ww_GW := ww_gw (List.mem_of_getElem? (i := 341) (by decide +kernel)) rfl
theorem wn_X6_61 : ww_new RX6 61 4 := ⟨(RX3, TX3, 18), tyX3, rfl, rfl, tyX3_ok, by decide +kernel, wu_4, wm_341, wm_342, wm_60⟩
theorem wm_347 : Cond.classLink RX3 31 "WheelWorks$Wheel" ∈ ww_GW := ww_gw (List.mem_of_getElem? (i := 347) (by decide +kernel)) rfl
theorem wm_348 : Cond.instantiable RX4 4 ∈ ww_GW := ww_gw (List.mem_of_getElem? (i := 348) (by decide +kernel)) rfl
theorem wn_X3_31 : ww_new RX3 31 5 := ⟨(RX4, TX4, 4), tyX4, rfl, rfl, tyX4_ok, by decide +kernel, wu_5, wm_347, wm_348, wm_61⟩
theorem wm_488 : Cond.classLink RJ7 110 "[Ljava/lang/Object;" ∈ ww_GW := ww_gw (List.mem_of_getElem? (i := 488) (by decide +kernel)) rfl
theorem wm_490 : Cond.classLink RJ7 2 "java/lang/Object" ∈ ww_GW := ww_gw (List.mem_of_getElem? (i := 490) (by decide +kernel)) rfl
theorem wm_496 : Cond.classLink RJx4a65c 7 "java/lang/Object" ∈ ww_GW := ww_gw (List.mem_of_getElem? (i := 496) (by decide +kernel)) rfl
theorem wm_509 : Cond.classLink RL 25 "java/lang/IndexOutOfBoundsException" ∈ ww_GW := ww_gw (List.mem_of_getElem? (i := 509) (by decide +kernel)) rfl
theorem wm_518 : Cond.classLink RX6 305 "java/lang/IndexOutOfBoundsException" ∈ ww_GW := ww_gw (List.mem_of_getElem? (i := 518) (by decide +kernel)) rfl
theorem wm_565 : Cond.classLink RX2 22 "WheelWorks$Event" ∈ ww_GW := ww_gw (List.mem_of_getElem? (i := 565) (by decide +kernel)) rfl
theorem wm_566 : Cond.instantiable RX0 3 ∈ ww_GW := ww_gw (List.mem_of_getElem? (i := 566) (by decide +kernel)) rfl
theorem wn_X2_22 : ww_new RX2 22 1 := ⟨(RX0, TX0, 3), tyX0, rfl, rfl, tyX0_ok, by decide +kernel, wu_1, wm_565, wm_566, wm_69⟩
theorem wm_959 : Cond.classLink RL 112 "WheelWorksModel" ∈ ww_GW := ww_gw (List.mem_of_getElem? (i := 959) (by decide +kernel)) rfl
theorem wm_960 : Cond.instantiable RX7 33 ∈ ww_GW := ww_gw (List.mem_of_getElem? (i := 960) (by decide +kernel)) rfl
theorem wn_L_112 : ww_new RL 112 8 := ⟨(RX7, TX7, 33), tyX7, rfl, rfl, tyX7_ok, by decide +kernel, wu_8, wm_959, wm_960, wm_54⟩
theorem wm_219 : Cond.constant RJ6 265 (1431655765) ∈ ww_GW := ww_gw (List.mem_of_getElem? (i := 219) (by decide +kernel)) rfl
theorem wm_220 : Cond.constant RJ6 266 (858993459) ∈ ww_GW := ww_gw (List.mem_of_getElem? (i := 220) (by decide +kernel)) rfl
theorem wm_221 : Cond.constant RJ6 267 (252645135) ∈ ww_GW := ww_gw (List.mem_of_getElem? (i := 221) (by decide +kernel)) rfl
theorem wm_462 : Cond.constant RJ8 200 (2147483639) ∈ ww_GW := ww_gw (List.mem_of_getElem? (i := 462) (by decide +kernel)) rfl
theorem wm_504 : Cond.constant RX6 70 (99999) ∈ ww_GW := ww_gw (List.mem_of_getElem? (i := 504) (by decide +kernel)) rfl
theorem wm_1081 : Cond.constant RX7 113 (99999) ∈ ww_GW := ww_gw (List.mem_of_getElem? (i := 1081) (by decide +kernel)) rfl
theorem wm_1212 : Cond.constant RX7 169 (1000000) ∈ ww_GW := ww_gw (List.mem_of_getElem? (i := 1212) (by decide +kernel)) rfl
theorem wm_1213 : Cond.constant RX7 170 (-1000000) ∈ ww_GW := ww_gw (List.mem_of_getElem? (i := 1213) (by decide +kernel)) rfl
theorem wm_122 : Cond.arrayClass .int ∈ ww_GW := ww_gw (List.mem_of_getElem? (i := 122) (by decide +kernel)) rfl
theorem wm_1065 : Cond.arrayClass .boolean ∈ ww_GW := ww_gw (List.mem_of_getElem? (i := 1065) (by decide +kernel)) rfl
theorem wm_1294 : Cond.arrayClass .long ∈ ww_GW := ww_gw (List.mem_of_getElem? (i := 1294) (by decide +kernel)) rfl
theorem wm_76 : Cond.methodLink RX6 1 objectInit ∈ ww_GW := ww_gw (List.mem_of_getElem? (i := 76) (by decide +kernel)) rfl
theorem wm_90 : Cond.methodLink RJxa1e45 1 objectInit ∈ ww_GW := ww_gw (List.mem_of_getElem? (i := 90) (by decide +kernel)) rfl
theorem wm_112 : Cond.methodLink RX2 3 objectInit ∈ ww_GW := ww_gw (List.mem_of_getElem? (i := 112) (by decide +kernel)) rfl
theorem wm_128 : Cond.methodLink RX5 3 objectInit ∈ ww_GW := ww_gw (List.mem_of_getElem? (i := 128) (by decide +kernel)) rfl
theorem wm_153 : Cond.methodLink RX1 1 objectInit ∈ ww_GW := ww_gw (List.mem_of_getElem? (i := 153) (by decide +kernel)) rfl
theorem wm_346 : Cond.methodLink RX3 3 objectInit ∈ ww_GW := ww_gw (List.mem_of_getElem? (i := 346) (by decide +kernel)) rfl
theorem wm_352 : Cond.methodLink RX4 3 objectInit ∈ ww_GW := ww_gw (List.mem_of_getElem? (i := 352) (by decide +kernel)) rfl
theorem wm_570 : Cond.methodLink RX0 1 objectInit ∈ ww_GW := ww_gw (List.mem_of_getElem? (i := 570) (by decide +kernel)) rfl
theorem wm_964 : Cond.methodLink RX7 1 objectInit ∈ ww_GW := ww_gw (List.mem_of_getElem? (i := 964) (by decide +kernel)) rfl
theorem wm_77 : Cond.instanceMethod objectInit ∈ ww_GW := ww_gw (List.mem_of_getElem? (i := 77) (by decide +kernel)) rfl
theorem wm_78 : Cond.code objectInit ⟨#[0xb1]⟩ 1 none ∈ ww_GW := ww_gw (List.mem_of_getElem? (i := 78) (by decide +kernel)) rfl
theorem wm_469 : Cond.methodLink RJ7 86 ⟨"java/lang/Object", "getClass", "()Ljava/lang/Class;"⟩ ∈ ww_GW := ww_gw (List.mem_of_getElem? (i := 469) (by decide +kernel)) rfl
theorem wm_492 : Cond.methodLink RJ7 150 arraycopyName ∈ ww_GW := ww_gw (List.mem_of_getElem? (i := 492) (by decide +kernel)) rfl
theorem wm_845 : Cond.methodLink RJx4a65c 112 arraycopyName ∈ ww_GW := ww_gw (List.mem_of_getElem? (i := 845) (by decide +kernel)) rfl
theorem wm_494 : Cond.native arraycopyName ∈ ww_GW := ww_gw (List.mem_of_getElem? (i := 494) (by decide +kernel)) rfl
theorem wm_493 : Cond.static arraycopyName ∈ ww_GW := ww_gw (List.mem_of_getElem? (i := 493) (by decide +kernel)) rfl
theorem wm_65 : Cond.initialized "java/lang/System" ∈ ww_GW := ww_gw (List.mem_of_getElem? (i := 65) (by decide +kernel)) rfl
theorem wm_484 : Cond.native ⟨"java/lang/Object", "getClass", "()Ljava/lang/Class;"⟩ ∈ ww_GW := ww_gw (List.mem_of_getElem? (i := 484) (by decide +kernel)) rfl
theorem wm_470 : Cond.instanceMethod ⟨"java/lang/Object", "getClass", "()Ljava/lang/Class;"⟩ ∈ ww_GW := ww_gw (List.mem_of_getElem? (i := 470) (by decide +kernel)) rfl
theorem wm_1311 : Cond.selects "[Ljava/lang/Object;" ⟨"java/lang/Object", "getClass", "()Ljava/lang/Class;"⟩ ⟨"java/lang/Object", "getClass", "()Ljava/lang/Class;"⟩ ∈ ww_GW := ww_gw (List.mem_of_getElem? (i := 1311) (by decide +kernel)) rfl
theorem wm_91 : Cond.fieldLink RJx4a65c 39 RJx4a65c "DEFAULTCAPACITY_EMPTY_ELEMENTDATA" "[Ljava/lang/Object;" ∈ ww_GW := ww_gw (List.mem_of_getElem? (i := 91) (by decide +kernel)) rfl
theorem wx_at_X6_49 : ∀ w ∈ vx_atS RX6 49 "java/lang/IllegalArgumentException" ["java/lang/RuntimeException", "java/lang/Exception"], w ∈ ww_GW ∨ (∃ q ∈ ww_ca, w = .castable q.1 q.2) ∨ (∃ x ∈ ww_de, w = .declares x) := by
  have h : (vx_atS RX6 49 "java/lang/IllegalArgumentException" ["java/lang/RuntimeException", "java/lang/Exception"]).all (fun w => (decide (w ∈ lw_tbl) && goodWord w) || decide (∃ q ∈ ww_ca, w = .castable q.1 q.2) || decide (∃ x ∈ ww_de, w = .declares x)) = true := by decide +kernel
  intro w hw
  have h1 := List.all_eq_true.mp h w hw
  simp only [Bool.or_eq_true, Bool.and_eq_true, decide_eq_true_eq] at h1
  rcases h1 with (h1 | h1) | h1
  · exact Or.inl (ww_gw h1.1 h1.2)
  · exact Or.inr (Or.inl h1)
  · exact Or.inr (Or.inr h1)
theorem wm_58 : Cond.initialized "java/lang/IllegalArgumentException" ∈ ww_GW := ww_gw (List.mem_of_getElem? (i := 58) (by decide +kernel)) rfl
theorem wx_X6_45_47 : ww_thr RX6 45 47 49 "java/lang/IllegalArgumentException" "melt or mod out of range" ["java/lang/RuntimeException", "java/lang/Exception"] := ⟨by decide +kernel, by decide +kernel, wm_252, wm_58, by decide +kernel, wx_at_X6_49, rfl⟩
theorem wx_at_X6_60 : ∀ w ∈ vx_atS RX6 60 "java/lang/IllegalStateException" ["java/lang/RuntimeException", "java/lang/Exception"], w ∈ ww_GW ∨ (∃ q ∈ ww_ca, w = .castable q.1 q.2) ∨ (∃ x ∈ ww_de, w = .declares x) := by
  have h : (vx_atS RX6 60 "java/lang/IllegalStateException" ["java/lang/RuntimeException", "java/lang/Exception"]).all (fun w => (decide (w ∈ lw_tbl) && goodWord w) || decide (∃ q ∈ ww_ca, w = .castable q.1 q.2) || decide (∃ x ∈ ww_de, w = .declares x)) = true := by decide +kernel
  intro w hw
  have h1 := List.all_eq_true.mp h w hw
  simp only [Bool.or_eq_true, Bool.and_eq_true, decide_eq_true_eq] at h1
  rcases h1 with (h1 | h1) | h1
  · exact Or.inl (ww_gw h1.1 h1.2)
  · exact Or.inr (Or.inl h1)
  · exact Or.inr (Or.inr h1)
theorem wm_59 : Cond.initialized "java/lang/IllegalStateException" ∈ ww_GW := ww_gw (List.mem_of_getElem? (i := 59) (by decide +kernel)) rfl
theorem wx_X6_56_58 : ww_thr RX6 56 58 60 "java/lang/IllegalStateException" "no more parts" ["java/lang/RuntimeException", "java/lang/Exception"] := ⟨by decide +kernel, by decide +kernel, wm_325, wm_59, by decide +kernel, wx_at_X6_60, rfl⟩
theorem wx_X6_45_71 : ww_thr RX6 45 71 49 "java/lang/IllegalArgumentException" "life, interval or window out of range" ["java/lang/RuntimeException", "java/lang/Exception"] := ⟨by decide +kernel, by decide +kernel, wm_252, wm_58, by decide +kernel, wx_at_X6_49, rfl⟩
theorem wx_X6_45_94 : ww_thr RX6 45 94 49 "java/lang/IllegalArgumentException" "no place for such a part" ["java/lang/RuntimeException", "java/lang/Exception"] := ⟨by decide +kernel, by decide +kernel, wm_252, wm_58, by decide +kernel, wx_at_X6_49, rfl⟩
theorem wx_X6_56_104 : ww_thr RX6 56 104 60 "java/lang/IllegalStateException" "the part cannot be fitted" ["java/lang/RuntimeException", "java/lang/Exception"] := ⟨by decide +kernel, by decide +kernel, wm_325, wm_59, by decide +kernel, wx_at_X6_60, rfl⟩
theorem wx_X6_56_116 : ww_thr RX6 56 116 60 "java/lang/IllegalStateException" "the host cannot be fitted to" ["java/lang/RuntimeException", "java/lang/Exception"] := ⟨by decide +kernel, by decide +kernel, wm_325, wm_59, by decide +kernel, wx_at_X6_60, rfl⟩
theorem wx_X6_56_127 : ww_thr RX6 56 127 60 "java/lang/IllegalStateException" "the mods are too far apart" ["java/lang/RuntimeException", "java/lang/Exception"] := ⟨by decide +kernel, by decide +kernel, wm_325, wm_59, by decide +kernel, wx_at_X6_60, rfl⟩
theorem wx_X6_56_147 : ww_thr RX6 56 147 60 "java/lang/IllegalStateException" "in no host, or bound" ["java/lang/RuntimeException", "java/lang/Exception"] := ⟨by decide +kernel, by decide +kernel, wm_325, wm_59, by decide +kernel, wx_at_X6_60, rfl⟩
theorem wx_X6_56_152 : ww_thr RX6 56 152 60 "java/lang/IllegalStateException" "not in the store, or not empty" ["java/lang/RuntimeException", "java/lang/Exception"] := ⟨by decide +kernel, by decide +kernel, wm_325, wm_59, by decide +kernel, wx_at_X6_60, rfl⟩
theorem wx_X6_56_158 : ww_thr RX6 56 158 60 "java/lang/IllegalStateException" "bound, or waits for the night" ["java/lang/RuntimeException", "java/lang/Exception"] := ⟨by decide +kernel, by decide +kernel, wm_325, wm_59, by decide +kernel, wx_at_X6_60, rfl⟩
theorem wx_X6_56_166 : ww_thr RX6 56 166 60 "java/lang/IllegalStateException" "not released, or bound" ["java/lang/RuntimeException", "java/lang/Exception"] := ⟨by decide +kernel, by decide +kernel, wm_325, wm_59, by decide +kernel, wx_at_X6_60, rfl⟩
theorem wx_X6_45_188 : ww_thr RX6 45 188 49 "java/lang/IllegalArgumentException" "no bogie" ["java/lang/RuntimeException", "java/lang/Exception"] := ⟨by decide +kernel, by decide +kernel, wm_252, wm_58, by decide +kernel, wx_at_X6_49, rfl⟩
theorem wx_X6_56_194 : ww_thr RX6 56 194 60 "java/lang/IllegalStateException" "not both wheelsets, or bound" ["java/lang/RuntimeException", "java/lang/Exception"] := ⟨by decide +kernel, by decide +kernel, wm_325, wm_59, by decide +kernel, wx_at_X6_60, rfl⟩
theorem wx_X6_45_211 : ww_thr RX6 45 211 49 "java/lang/IllegalArgumentException" "error out of range" ["java/lang/RuntimeException", "java/lang/Exception"] := ⟨by decide +kernel, by decide +kernel, wm_252, wm_58, by decide +kernel, wx_at_X6_49, rfl⟩
theorem wx_X6_56_222 : ww_thr RX6 56 222 60 "java/lang/IllegalStateException" "no examination is possible" ["java/lang/RuntimeException", "java/lang/Exception"] := ⟨by decide +kernel, by decide +kernel, wm_325, wm_59, by decide +kernel, wx_at_X6_60, rfl⟩
theorem wx_X6_45_230 : ww_thr RX6 45 230 49 "java/lang/IllegalArgumentException" "kilometres out of range" ["java/lang/RuntimeException", "java/lang/Exception"] := ⟨by decide +kernel, by decide +kernel, wm_252, wm_58, by decide +kernel, wx_at_X6_49, rfl⟩
theorem wx_X6_56_236 : ww_thr RX6 56 236 60 "java/lang/IllegalStateException" "nothing can be waived" ["java/lang/RuntimeException", "java/lang/Exception"] := ⟨by decide +kernel, by decide +kernel, wm_325, wm_59, by decide +kernel, wx_at_X6_60, rfl⟩
theorem wx_X6_45_238 : ww_thr RX6 45 238 49 "java/lang/IllegalArgumentException" "neither wheelset nor motor" ["java/lang/RuntimeException", "java/lang/Exception"] := ⟨by decide +kernel, by decide +kernel, wm_252, wm_58, by decide +kernel, wx_at_X6_49, rfl⟩
theorem wx_X6_45_240 : ww_thr RX6 45 240 49 "java/lang/IllegalArgumentException" "size out of range" ["java/lang/RuntimeException", "java/lang/Exception"] := ⟨by decide +kernel, by decide +kernel, wm_252, wm_58, by decide +kernel, wx_at_X6_49, rfl⟩
theorem wx_X6_56_246 : ww_thr RX6 56 246 60 "java/lang/IllegalStateException" "cannot be looked at" ["java/lang/RuntimeException", "java/lang/Exception"] := ⟨by decide +kernel, by decide +kernel, wm_325, wm_59, by decide +kernel, wx_at_X6_60, rfl⟩
theorem wx_X6_56_251 : ww_thr RX6 56 251 60 "java/lang/IllegalStateException" "not quarantined, or bound" ["java/lang/RuntimeException", "java/lang/Exception"] := ⟨by decide +kernel, by decide +kernel, wm_325, wm_59, by decide +kernel, wx_at_X6_60, rfl⟩
theorem wx_X6_45_253 : ww_thr RX6 45 253 49 "java/lang/IllegalArgumentException" "melt out of range" ["java/lang/RuntimeException", "java/lang/Exception"] := ⟨by decide +kernel, by decide +kernel, wm_252, wm_58, by decide +kernel, wx_at_X6_49, rfl⟩
theorem wx_X6_45_261 : ww_thr RX6 45 261 49 "java/lang/IllegalArgumentException" "time out of range" ["java/lang/RuntimeException", "java/lang/Exception"] := ⟨by decide +kernel, by decide +kernel, wm_252, wm_58, by decide +kernel, wx_at_X6_49, rfl⟩
theorem wx_X6_56_270 : ww_thr RX6 56 270 60 "java/lang/IllegalStateException" "no room to wait, or waits" ["java/lang/RuntimeException", "java/lang/Exception"] := ⟨by decide +kernel, by decide +kernel, wm_325, wm_59, by decide +kernel, wx_at_X6_60, rfl⟩
theorem wx_X6_56_272 : ww_thr RX6 56 272 60 "java/lang/IllegalStateException" "stands on a road, or is scrapped" ["java/lang/RuntimeException", "java/lang/Exception"] := ⟨by decide +kernel, by decide +kernel, wm_325, wm_59, by decide +kernel, wx_at_X6_60, rfl⟩
theorem wx_X6_56_283 : ww_thr RX6 56 283 60 "java/lang/IllegalStateException" "none waits, or one stands on a road" ["java/lang/RuntimeException", "java/lang/Exception"] := ⟨by decide +kernel, by decide +kernel, wm_325, wm_59, by decide +kernel, wx_at_X6_60, rfl⟩
theorem wx_X6_56_288 : ww_thr RX6 56 288 60 "java/lang/IllegalStateException" "none stands on a road" ["java/lang/RuntimeException", "java/lang/Exception"] := ⟨by decide +kernel, by decide +kernel, wm_325, wm_59, by decide +kernel, wx_at_X6_60, rfl⟩
theorem wx_X6_45_299 : ww_thr RX6 45 299 49 "java/lang/IllegalArgumentException" "no such thing to tell of a part" ["java/lang/RuntimeException", "java/lang/Exception"] := ⟨by decide +kernel, by decide +kernel, wm_252, wm_58, by decide +kernel, wx_at_X6_49, rfl⟩
theorem wx_at_X6_309 : ∀ w ∈ vx_atS RX6 309 "java/lang/IndexOutOfBoundsException" ["java/lang/RuntimeException", "java/lang/Exception"], w ∈ ww_GW ∨ (∃ q ∈ ww_ca, w = .castable q.1 q.2) ∨ (∃ x ∈ ww_de, w = .declares x) := by
  have h : (vx_atS RX6 309 "java/lang/IndexOutOfBoundsException" ["java/lang/RuntimeException", "java/lang/Exception"]).all (fun w => (decide (w ∈ lw_tbl) && goodWord w) || decide (∃ q ∈ ww_ca, w = .castable q.1 q.2) || decide (∃ x ∈ ww_de, w = .declares x)) = true := by decide +kernel
  intro w hw
  have h1 := List.all_eq_true.mp h w hw
  simp only [Bool.or_eq_true, Bool.and_eq_true, decide_eq_true_eq] at h1
  rcases h1 with (h1 | h1) | h1
  · exact Or.inl (ww_gw h1.1 h1.2)
  · exact Or.inr (Or.inl h1)
  · exact Or.inr (Or.inr h1)
theorem wm_66 : Cond.initialized "java/lang/IndexOutOfBoundsException" ∈ ww_GW := ww_gw (List.mem_of_getElem? (i := 66) (by decide +kernel)) rfl
theorem wx_X6_305_307 : ww_thr RX6 305 307 309 "java/lang/IndexOutOfBoundsException" "no such move" ["java/lang/RuntimeException", "java/lang/Exception"] := ⟨by decide +kernel, by decide +kernel, wm_518, wm_66, by decide +kernel, wx_at_X6_309, rfl⟩
theorem wx_X6_45_318 : ww_thr RX6 45 318 49 "java/lang/IllegalArgumentException" "no such thing to tell of a wheelset" ["java/lang/RuntimeException", "java/lang/Exception"] := ⟨by decide +kernel, by decide +kernel, wm_252, wm_58, by decide +kernel, wx_at_X6_49, rfl⟩
theorem wx_X6_305_332 : ww_thr RX6 305 332 309 "java/lang/IndexOutOfBoundsException" "no such road or place" ["java/lang/RuntimeException", "java/lang/Exception"] := ⟨by decide +kernel, by decide +kernel, wm_518, wm_66, by decide +kernel, wx_at_X6_309, rfl⟩
theorem wx_X6_45_337 : ww_thr RX6 45 337 49 "java/lang/IllegalArgumentException" "kilometres or season out of range" ["java/lang/RuntimeException", "java/lang/Exception"] := ⟨by decide +kernel, by decide +kernel, wm_252, wm_58, by decide +kernel, wx_at_X6_49, rfl⟩
theorem wx_X6_45_339 : ww_thr RX6 45 339 49 "java/lang/IllegalArgumentException" "no such kind" ["java/lang/RuntimeException", "java/lang/Exception"] := ⟨by decide +kernel, by decide +kernel, wm_252, wm_58, by decide +kernel, wx_at_X6_49, rfl⟩
theorem wx_X6_305_341 : ww_thr RX6 305 341 309 "java/lang/IndexOutOfBoundsException" "no such part" ["java/lang/RuntimeException", "java/lang/Exception"] := ⟨by decide +kernel, by decide +kernel, wm_518, wm_66, by decide +kernel, wx_at_X6_309, rfl⟩
theorem wx_X6_45_343 : ww_thr RX6 45 343 49 "java/lang/IllegalArgumentException" "no train" ["java/lang/RuntimeException", "java/lang/Exception"] := ⟨by decide +kernel, by decide +kernel, wm_252, wm_58, by decide +kernel, wx_at_X6_49, rfl⟩
theorem wx_X6_45_349 : ww_thr RX6 45 349 49 "java/lang/IllegalArgumentException" "no wheelset" ["java/lang/RuntimeException", "java/lang/Exception"] := ⟨by decide +kernel, by decide +kernel, wm_252, wm_58, by decide +kernel, wx_at_X6_49, rfl⟩
