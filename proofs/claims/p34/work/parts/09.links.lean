abbrev wy_X6_init : ww_Yd := (yX6_init, cX6_init, 2, none, [])
abbrev wy_Jx4a65c_init_da8c8 : ww_Yd := (yJx4a65c_init_da8c8, cJx4a65c_init_da8c8, 1, none, [])
abbrev wy_Jxc12de_init_da8c8 : ww_Yd := (yJxc12de_init_da8c8, cJxc12de_init_da8c8, 1, none, [])
abbrev wy_Jxa1e45_init_da8c8 : ww_Yd := (yJxa1e45_init_da8c8, cJxa1e45_init_da8c8, 1, none, [])
abbrev wy_X2_init : ww_Yd := (yX2_init, cX2_init, 1, none, [])
abbrev wy_X5_init : ww_Yd := (yX5_init, cX5_init, 1, none, [])
abbrev wy_X1_init : ww_Yd := (yX1_init, cX1_init, 1, none, [])
abbrev wy_X6_part : ww_Yd := (yX6_part, cX6_part, 6, (some .int), [])
abbrev wy_X6_limitsOf : ww_Yd := (yX6_limitsOf, cX6_limitsOf, 2, (some (.object "WheelWorks$KindLimits")), [])
abbrev wy_X6_isOutside : ww_Yd := (yX6_isOutside, cX6_isOutside, 3, (some .boolean), [])
abbrev wy_Jx4a65c_size_8abf5 : ww_Yd := (yJx4a65c_size_8abf5, cJx4a65c_size_8abf5, 1, (some .int), [])
abbrev wy_X3_init : ww_Yd := (yX3_init, cX3_init, 6, none, [])
abbrev wy_X4_init : ww_Yd := (yX4_init, cX4_init, 1, none, [])
abbrev wy_Jx4a65c_add_9ea2d : ww_Yd := (yJx4a65c_add_9ea2d, cJx4a65c_add_9ea2d, 2, (some .boolean), [])
abbrev wy_Jx4a65c_add_72be8 : ww_Yd := (yJx4a65c_add_72be8, cJx4a65c_add_72be8, 4, none, [])
abbrev wy_Jx4a65c_grow_d5877 : ww_Yd := (yJx4a65c_grow_d5877, cJx4a65c_grow_d5877, 1, (some (.array (.object "java/lang/Object"))), [])
abbrev wy_Jx4a65c_grow_92f84 : ww_Yd := (yJx4a65c_grow_92f84, cJx4a65c_grow_92f84, 4, (some (.array (.object "java/lang/Object"))), [])
abbrev wy_J8_newLength_cabcc : ww_Yd := (yJ8_newLength_cabcc, cJ8_newLength_cabcc, 4, (some .int), [])
abbrev wy_J9_max_7cf53 : ww_Yd := (yJ9_max_7cf53, cJ9_max_7cf53, 2, (some .int), [])
abbrev wy_J8_hugeLength_7cf53 : ww_Yd := (yJ8_hugeLength_7cf53, cJ8_hugeLength_7cf53, 3, (some .int), [])
abbrev wy_J7_copyOf_1904c : ww_Yd := (yJ7_copyOf_1904c, cJ7_copyOf_1904c, 2, (some (.array (.object "java/lang/Object"))), [])
abbrev wy_J7_copyOf_6403c : ww_Yd := (yJ7_copyOf_6403c, cJ7_copyOf_6403c, 4, (some (.array (.object "java/lang/Object"))), [])
abbrev wy_J9_min_7cf53 : ww_Yd := (yJ9_min_7cf53, cJ9_min_7cf53, 2, (some .int), [])
abbrev wy_X6_limits : ww_Yd := (yX6_limits, cX6_limits, 7, (some .int), [])
abbrev wy_X6_fit : ww_Yd := (yX6_fit, cX6_fit, 6, (some .int), [])
abbrev wy_X6_existing : ww_Yd := (yX6_existing, cX6_existing, 2, (some (.object "WheelWorks$Part")), [])
abbrev wy_Jx4a65c_get_915e3 : ww_Yd := (yJx4a65c_get_915e3, cJx4a65c_get_915e3, 2, (some (.object "java/lang/Object")), [])
abbrev wy_J15_checkIndex_7cf53 : ww_Yd := (yJ15_checkIndex_7cf53, cJ15_checkIndex_7cf53, 2, (some .int), [])
abbrev wy_J3_checkIndex_8e157 : ww_Yd := (yJ3_checkIndex_8e157, cJ3_checkIndex_8e157, 3, (some .int), [])
abbrev wy_Jx4a65c_elementData_915e3 : ww_Yd := (yJx4a65c_elementData_915e3, cJx4a65c_elementData_915e3, 2, (some (.object "java/lang/Object")), [])
abbrev wy_X6_placesFor : ww_Yd := (yX6_placesFor, cX6_placesFor, 2, (some .int), [])
abbrev wy_X3_isInStore : ww_Yd := (yX3_isInStore, cX3_isInStore, 1, (some .boolean), [])
abbrev wy_X3_isBound : ww_Yd := (yX3_isBound, cX3_isBound, 1, (some .boolean), [])
abbrev wy_X3_top : ww_Yd := (yX3_top, cX3_top, 3, (some (.object "WheelWorks$Part")), [])
abbrev wy_X6_inside : ww_Yd := (yX6_inside, cX6_inside, 6, (some .int), [])
abbrev wy_J9_abs_0f7a4 : ww_Yd := (yJ9_abs_0f7a4, cJ9_abs_0f7a4, 1, (some .int), [])
abbrev wy_X2_addMove : ww_Yd := (yX2_addMove, cX2_addMove, 3, none, [])
abbrev wy_X0_init : ww_Yd := (yX0_init, cX0_init, 4, none, [])
abbrev wy_X2_add : ww_Yd := (yX2_add, cX2_add, 2, none, [])
abbrev wy_X6_inside_ : ww_Yd := (yX6_inside_, cX6_inside_, 4, (some .int), [])
abbrev wy_X6_take : ww_Yd := (yX6_take, cX6_take, 4, (some .int), [])
abbrev wy_X6_scrap : ww_Yd := (yX6_scrap, cX6_scrap, 3, none, [])
abbrev wy_X5_isWaiting : ww_Yd := (yX5_isWaiting, cX5_isWaiting, 3, (some .boolean), [])
abbrev wy_X6_run : ww_Yd := (yX6_run, cX6_run, 8, (some .int), [])
abbrev wy_X6_existingTrain : ww_Yd := (yX6_existingTrain, cX6_existingTrain, 3, (some (.object "WheelWorks$Part")), [])
abbrev wy_X6_checkRun : ww_Yd := (yX6_checkRun, cX6_checkRun, 2, none, [])
abbrev wy_X2_addRun : ww_Yd := (yX2_addRun, cX2_addRun, 3, none, [])
abbrev wy_X6_rubbing : ww_Yd := (yX6_rubbing, cX6_rubbing, 1, (some .int), [])
abbrev wy_X3_runs : ww_Yd := (yX3_runs, cX3_runs, 4, none, [])
abbrev wy_X4_wear : ww_Yd := (yX4_wear, cX4_wear, 3, none, [])
abbrev wy_X3_growFlaw : ww_Yd := (yX3_growFlaw, cX3_growFlaw, 3, none, [])
abbrev wy_X6_quarantineTree : ww_Yd := (yX6_quarantineTree, cX6_quarantineTree, 4, none, [])
abbrev wy_X6_turn : ww_Yd := (yX6_turn, cX6_turn, 7, (some .int), [])
abbrev wy_X6_wheelIn : ww_Yd := (yX6_wheelIn, cX6_wheelIn, 6, (some (.object "WheelWorks$Wheel")), [])
abbrev wy_X4_renewFlange : ww_Yd := (yX4_renewFlange, cX4_renewFlange, 1, none, [])
abbrev wy_X6_gate : ww_Yd := (yX6_gate, cX6_gate, 4, (some .int), [])
abbrev wy_X6_existingWheel : ww_Yd := (yX6_existingWheel, cX6_existingWheel, 3, (some (.object "WheelWorks$Wheel")), [])
abbrev wy_X6_examine : ww_Yd := (yX6_examine, cX6_examine, 4, (some .int), [])
abbrev wy_X3_mayBeExamined : ww_Yd := (yX3_mayBeExamined, cX3_mayBeExamined, 1, (some .boolean), [])
abbrev wy_X6_waive : ww_Yd := (yX6_waive, cX6_waive, 4, none, [])
abbrev wy_X6_flaw : ww_Yd := (yX6_flaw, cX6_flaw, 5, (some .int), [])
abbrev wy_X6_look : ww_Yd := (yX6_look, cX6_look, 4, (some .int), [])
abbrev wy_X6_clear : ww_Yd := (yX6_clear, cX6_clear, 4, (some .int), [])
abbrev wy_X6_recall : ww_Yd := (yX6_recall, cX6_recall, 5, (some .int), [])
abbrev wy_X6_release : ww_Yd := (yX6_release, cX6_release, 4, (some .int), [])
abbrev wy_X6_firstBar : ww_Yd := (yX6_firstBar, cX6_firstBar, 3, (some .int), [])
abbrev wy_X6_lowestBarring : ww_Yd := (yX6_lowestBarring, cX6_lowestBarring, 5, (some .int), [])
abbrev wy_X6_isSo : ww_Yd := (yX6_isSo, cX6_isSo, 3, (some .boolean), [])
abbrev wy_X6_hasEmptyPlace : ww_Yd := (yX6_hasEmptyPlace, cX6_hasEmptyPlace, 3, (some .boolean), [])
abbrev wy_X4_isWorn : ww_Yd := (yX4_isWorn, cX4_isWorn, 1, (some .boolean), [])
abbrev wy_X6_isApart : ww_Yd := (yX6_isApart, cX6_isApart, 2, (some .boolean), [])
abbrev wy_X6_spreadIn : ww_Yd := (yX6_spreadIn, cX6_spreadIn, 6, (some .int), [])
abbrev wy_X3_isWithin : ww_Yd := (yX3_isWithin, cX3_isWithin, 4, (some .boolean), [])
abbrev wy_X3_isExaminationDue : ww_Yd := (yX3_isExaminationDue, cX3_isExaminationDue, 1, (some .boolean), [])
abbrev wy_X6_comes : ww_Yd := (yX6_comes, cX6_comes, 4, (some .int), [])
abbrev wy_X5_isTaken : ww_Yd := (yX5_isTaken, cX5_isTaken, 3, (some .boolean), [])
abbrev wy_X6_night : ww_Yd := (yX6_night, cX6_night, 1, (some .int), [])
abbrev wy_Jx4a65c_isEmpty_aae02 : ww_Yd := (yJx4a65c_isEmpty_aae02, cJx4a65c_isEmpty_aae02, 1, (some .boolean), [])
abbrev wy_X5_park : ww_Yd := (yX5_park, cX5_park, 4, (some .int), [])
abbrev wy_X5_makePlan : ww_Yd := (yX5_makePlan, cX5_makePlan, 1, (some .int), [])
abbrev wy_X5_markBlocked : ww_Yd := (yX5_markBlocked, cX5_markBlocked, 3, none, [])
abbrev wy_X5_searchPlan : ww_Yd := (yX5_searchPlan, cX5_searchPlan, 6, none, [])
abbrev wy_X5_trainsIn : ww_Yd := (yX5_trainsIn, cX5_trainsIn, 2, (some .int), [])
abbrev wy_J6_bitCount_0f7a4 : ww_Yd := (yJ6_bitCount_0f7a4, cJ6_bitCount_0f7a4, 1, (some .int), [])
abbrev wy_X5_bitOf : ww_Yd := (yX5_bitOf, cX5_bitOf, 2, (some .int), [])
abbrev wy_X5_roadIn : ww_Yd := (yX5_roadIn, cX5_roadIn, 3, (some .int), [])
abbrev wy_Jx4a65c_clear_da8c8 : ww_Yd := (yJx4a65c_clear_da8c8, cJx4a65c_clear_da8c8, 4, none, [])
abbrev wy_X6_out : ww_Yd := (yX6_out, cX6_out, 1, (some .int), [])
abbrev wy_X5_sendFirst : ww_Yd := (yX5_sendFirst, cX5_sendFirst, 5, (some .int), [])
abbrev wy_Jx4a65c_remove_915e3 : ww_Yd := (yJx4a65c_remove_915e3, cJx4a65c_remove_915e3, 4, (some (.object "java/lang/Object")), [])
abbrev wy_Jx4a65c_fastRemove_b59b0 : ww_Yd := (yJx4a65c_fastRemove_b59b0, cJx4a65c_fastRemove_b59b0, 4, none, [])
abbrev wy_X6_host : ww_Yd := (yX6_host, cX6_host, 2, (some .int), [])
abbrev wy_X3_whereabouts : ww_Yd := (yX3_whereabouts, cX3_whereabouts, 1, (some .int), [])
abbrev wy_X6_head : ww_Yd := (yX6_head, cX6_head, 2, (some .int), [])
abbrev wy_X6_ofPart : ww_Yd := (yX6_ofPart, cX6_ofPart, 4, (some .int), [])
abbrev wy_X2_movesOf : ww_Yd := (yX2_movesOf, cX2_movesOf, 4, (some .int), [])
abbrev wy_X2_isMoveOf : ww_Yd := (yX2_isMoveOf, cX2_isMoveOf, 2, (some .boolean), [])
abbrev wy_X6_trace : ww_Yd := (yX6_trace, cX6_trace, 5, (some .int), [])
abbrev wy_X2_moveOf : ww_Yd := (yX2_moveOf, cX2_moveOf, 6, (some (.object "WheelWorks$Event")), [])
abbrev wy_X6_lifeAnew : ww_Yd := (yX6_lifeAnew, cX6_lifeAnew, 2, (some .int), [])
abbrev wy_X2_lifeOf : ww_Yd := (yX2_lifeOf, cX2_lifeOf, 5, (some .int), [])
abbrev wy_X2_topThen : ww_Yd := (yX2_topThen, cX2_topThen, 4, (some .int), [])
abbrev wy_X2_isPart : ww_Yd := (yX2_isPart, cX2_isPart, 2, (some .boolean), [])
abbrev wy_X6_wheel : ww_Yd := (yX6_wheel, cX6_wheel, 4, (some .int), [])
abbrev wy_X6_foretell : ww_Yd := (yX6_foretell, cX6_foretell, 6, (some .int), [])
abbrev wy_X6_bars : ww_Yd := (yX6_bars, cX6_bars, 2, (some .int), [])
abbrev wy_X6_barredBy : ww_Yd := (yX6_barredBy, cX6_barredBy, 3, (some .int), [])
abbrev wy_X6_isReleased : ww_Yd := (yX6_isReleased, cX6_isReleased, 2, (some .boolean), [])
abbrev wy_X6_plan : ww_Yd := (yX6_plan, cX6_plan, 1, (some .int), [])
abbrev wy_X6_planAnew : ww_Yd := (yX6_planAnew, cX6_planAnew, 1, (some .int), [])
abbrev wy_X5_makePlanAnew : ww_Yd := (yX5_makePlanAnew, cX5_makePlanAnew, 1, (some .int), [])
abbrev wy_X5_fewestMoves : ww_Yd := (yX5_fewestMoves, cX5_fewestMoves, 7, (some .int), [])
abbrev wy_X6_road : ww_Yd := (yX6_road, cX6_road, 3, (some .int), [])
abbrev wy_X5_trainOn : ww_Yd := (yX5_trainOn, cX5_trainOn, 6, (some .int), [])
abbrev wy_L_cell : ww_Yd := (yL_cell, cL_cell, 2, (some .int), [])
abbrev wy_L_low : ww_Yd := (yL_low, cL_low, 2, (some .int), [])
abbrev wy_L_build : ww_Yd := (yL_build, cL_build, 4, (some .boolean), [])
abbrev wy_L_inside : ww_Yd := (yL_inside, cL_inside, 5, (some .int), [])
abbrev wy_L_room : ww_Yd := (yL_room, cL_room, 2, (some .int), [])
abbrev wy_L_stands : ww_Yd := (yL_stands, cL_stands, 5, (some .boolean), [])
abbrev wy_L_law : ww_Yd := (yL_law, cL_law, maxLocals, ret, [])
theorem wu_0 : ∀ w ∈ u_ws RJx4a65c TJx4a65c 3, w ∈ ww_GW := by
  intro w hw
  obtain ⟨k, hk, rfl⟩ := List.mem_map.mp hw
  have hk := List.mem_range.mp hk
  have h1 : ∀ k, k < 3 → lw_tbl[([79, 75, 77] : List Nat).getD k 0]? = some (u_lay RJx4a65c TJx4a65c k) := by decide +kernel
  have h2 : ∀ k, k < 3 → goodWord (u_lay RJx4a65c TJx4a65c k) = true := by decide +kernel
  exact ww_gw (List.mem_of_getElem? (h1 k hk)) (h2 k hk)
theorem wt_0_0 {y : MethodName} : ww_fst y 0 0 (tyJx4a65c 0) := ⟨(RJx4a65c, TJx4a65c, 3), tyJx4a65c, rfl, tyJx4a65c_ok, nmJx4a65c, Or.inl rfl, tyJx4a65c_ok 0 (by decide)⟩
theorem wt_0_1 {y : MethodName} : ww_fst y 0 1 (tyJx4a65c 1) := ⟨(RJx4a65c, TJx4a65c, 3), tyJx4a65c, rfl, tyJx4a65c_ok, nmJx4a65c, Or.inl rfl, tyJx4a65c_ok 1 (by decide)⟩
theorem wt_0_2 {y : MethodName} : ww_fst y 0 2 (tyJx4a65c 2) := ⟨(RJx4a65c, TJx4a65c, 3), tyJx4a65c, rfl, tyJx4a65c_ok, nmJx4a65c, Or.inl rfl, tyJx4a65c_ok 2 (by decide)⟩
theorem wu_1 : ∀ w ∈ u_ws RX0 TX0 3, w ∈ ww_GW := by
  intro w hw
  obtain ⟨k, hk, rfl⟩ := List.mem_map.mp hw
  have hk := List.mem_range.mp hk
  have h1 : ∀ k, k < 3 → lw_tbl[([500, 502, 504] : List Nat).getD k 0]? = some (u_lay RX0 TX0 k) := by decide +kernel
  have h2 : ∀ k, k < 3 → goodWord (u_lay RX0 TX0 k) = true := by decide +kernel
  exact ww_gw (List.mem_of_getElem? (h1 k hk)) (h2 k hk)
theorem wt_1_0 : ww_fst yX0_init 1 0 (tyX0 0) := ⟨(RX0, TX0, 3), tyX0, rfl, tyX0_ok, nmX0, Or.inr ⟨rfl, rfl, rfl⟩, tyX0_ok 0 (by decide)⟩
theorem wt_1_1 : ww_fst yX0_init 1 1 (tyX0 1) := ⟨(RX0, TX0, 3), tyX0, rfl, tyX0_ok, nmX0, Or.inr ⟨rfl, rfl, rfl⟩, tyX0_ok 1 (by decide)⟩
theorem wt_1_2 : ww_fst yX0_init 1 2 (tyX0 2) := ⟨(RX0, TX0, 3), tyX0, rfl, tyX0_ok, nmX0, Or.inr ⟨rfl, rfl, rfl⟩, tyX0_ok 2 (by decide)⟩
theorem wu_2 : ∀ w ∈ u_ws RX1 TX1 3, w ∈ ww_GW := by
  intro w hw
  obtain ⟨k, hk, rfl⟩ := List.mem_map.mp hw
  have hk := List.mem_range.mp hk
  have h1 : ∀ k, k < 3 → lw_tbl[([136, 138, 140] : List Nat).getD k 0]? = some (u_lay RX1 TX1 k) := by decide +kernel
  have h2 : ∀ k, k < 3 → goodWord (u_lay RX1 TX1 k) = true := by decide +kernel
  exact ww_gw (List.mem_of_getElem? (h1 k hk)) (h2 k hk)
theorem wt_2_0 {y : MethodName} : ww_fst y 2 0 (tyX1 0) := ⟨(RX1, TX1, 3), tyX1, rfl, tyX1_ok, nmX1, Or.inl rfl, tyX1_ok 0 (by decide)⟩
theorem wt_2_1 {y : MethodName} : ww_fst y 2 1 (tyX1 1) := ⟨(RX1, TX1, 3), tyX1, rfl, tyX1_ok, nmX1, Or.inl rfl, tyX1_ok 1 (by decide)⟩
theorem wt_2_2 {y : MethodName} : ww_fst y 2 2 (tyX1 2) := ⟨(RX1, TX1, 3), tyX1, rfl, tyX1_ok, nmX1, Or.inl rfl, tyX1_ok 2 (by decide)⟩
theorem wu_3 : ∀ w ∈ u_ws RX2 TX2 2, w ∈ ww_GW := by
  intro w hw
  obtain ⟨k, hk, rfl⟩ := List.mem_map.mp hw
  have hk := List.mem_range.mp hk
  have h1 : ∀ k, k < 2 → lw_tbl[([94, 96] : List Nat).getD k 0]? = some (u_lay RX2 TX2 k) := by decide +kernel
  have h2 : ∀ k, k < 2 → goodWord (u_lay RX2 TX2 k) = true := by decide +kernel
  exact ww_gw (List.mem_of_getElem? (h1 k hk)) (h2 k hk)
theorem wt_3_0 : ww_fst yX2_init 3 0 (tyX2 0) := ⟨(RX2, TX2, 2), tyX2, rfl, tyX2_ok, nmX2, Or.inr ⟨rfl, rfl, rfl⟩, tyX2_ok 0 (by decide)⟩
theorem wt_3_1 : ww_fst yX2_init 3 1 (tyX2 1) := ⟨(RX2, TX2, 2), tyX2, rfl, tyX2_ok, nmX2, Or.inr ⟨rfl, rfl, rfl⟩, tyX2_ok 1 (by decide)⟩
theorem wu_4 : ∀ w ∈ u_ws RX3 TX3 18, w ∈ ww_GW := by
  intro w hw
  obtain ⟨k, hk, rfl⟩ := List.mem_map.mp hw
  have hk := List.mem_range.mp hk
  have h1 : ∀ k, k < 18 → lw_tbl[([318, 320, 322, 324, 326, 328, 330, 332, 334, 336, 338, 340, 342, 344, 346, 348, 350, 352] : List Nat).getD k 0]? = some (u_lay RX3 TX3 k) := by decide +kernel
  have h2 : ∀ k, k < 18 → goodWord (u_lay RX3 TX3 k) = true := by decide +kernel
  exact ww_gw (List.mem_of_getElem? (h1 k hk)) (h2 k hk)
theorem wt_4_0 : ww_fst yX3_init 4 0 (tyX3 0) := ⟨(RX3, TX3, 18), tyX3, rfl, tyX3_ok, nmX3, Or.inr ⟨rfl, rfl, rfl⟩, tyX3_ok 0 (by decide)⟩
theorem wt_4_1 : ww_fst yX3_init 4 1 (tyX3 1) := ⟨(RX3, TX3, 18), tyX3, rfl, tyX3_ok, nmX3, Or.inr ⟨rfl, rfl, rfl⟩, tyX3_ok 1 (by decide)⟩
theorem wt_4_2 : ww_fst yX3_init 4 2 (tyX3 2) := ⟨(RX3, TX3, 18), tyX3, rfl, tyX3_ok, nmX3, Or.inr ⟨rfl, rfl, rfl⟩, tyX3_ok 2 (by decide)⟩
theorem wt_4_3 : ww_fst yX3_init 4 3 (tyX3 3) := ⟨(RX3, TX3, 18), tyX3, rfl, tyX3_ok, nmX3, Or.inr ⟨rfl, rfl, rfl⟩, tyX3_ok 3 (by decide)⟩
theorem wt_4_4 : ww_fst yX3_init 4 4 (tyX3 4) := ⟨(RX3, TX3, 18), tyX3, rfl, tyX3_ok, nmX3, Or.inr ⟨rfl, rfl, rfl⟩, tyX3_ok 4 (by decide)⟩
theorem wt_4_5 : ww_fst yX3_init 4 5 (tyX3 5) := ⟨(RX3, TX3, 18), tyX3, rfl, tyX3_ok, nmX3, Or.inr ⟨rfl, rfl, rfl⟩, tyX3_ok 5 (by decide)⟩
theorem wt_4_6 {y : MethodName} : ww_fst y 4 6 (tyX3 6) := ⟨(RX3, TX3, 18), tyX3, rfl, tyX3_ok, nmX3, Or.inl rfl, tyX3_ok 6 (by decide)⟩
theorem wt_4_7 {y : MethodName} : ww_fst y 4 7 (tyX3 7) := ⟨(RX3, TX3, 18), tyX3, rfl, tyX3_ok, nmX3, Or.inl rfl, tyX3_ok 7 (by decide)⟩
theorem wt_4_8 {y : MethodName} : ww_fst y 4 8 (tyX3 8) := ⟨(RX3, TX3, 18), tyX3, rfl, tyX3_ok, nmX3, Or.inl rfl, tyX3_ok 8 (by decide)⟩
theorem wt_4_9 {y : MethodName} : ww_fst y 4 9 (tyX3 9) := ⟨(RX3, TX3, 18), tyX3, rfl, tyX3_ok, nmX3, Or.inl rfl, tyX3_ok 9 (by decide)⟩
theorem wt_4_10 {y : MethodName} : ww_fst y 4 10 (tyX3 10) := ⟨(RX3, TX3, 18), tyX3, rfl, tyX3_ok, nmX3, Or.inl rfl, tyX3_ok 10 (by decide)⟩
theorem wt_4_11 {y : MethodName} : ww_fst y 4 11 (tyX3 11) := ⟨(RX3, TX3, 18), tyX3, rfl, tyX3_ok, nmX3, Or.inl rfl, tyX3_ok 11 (by decide)⟩
theorem wt_4_12 {y : MethodName} : ww_fst y 4 12 (tyX3 12) := ⟨(RX3, TX3, 18), tyX3, rfl, tyX3_ok, nmX3, Or.inl rfl, tyX3_ok 12 (by decide)⟩
theorem wt_4_13 {y : MethodName} : ww_fst y 4 13 (tyX3 13) := ⟨(RX3, TX3, 18), tyX3, rfl, tyX3_ok, nmX3, Or.inl rfl, tyX3_ok 13 (by decide)⟩
theorem wt_4_14 {y : MethodName} : ww_fst y 4 14 (tyX3 14) := ⟨(RX3, TX3, 18), tyX3, rfl, tyX3_ok, nmX3, Or.inl rfl, tyX3_ok 14 (by decide)⟩
theorem wt_4_15 {y : MethodName} : ww_fst y 4 15 (tyX3 15) := ⟨(RX3, TX3, 18), tyX3, rfl, tyX3_ok, nmX3, Or.inl rfl, tyX3_ok 15 (by decide)⟩
theorem wt_4_16 {y : MethodName} : ww_fst y 4 16 (tyX3 16) := ⟨(RX3, TX3, 18), tyX3, rfl, tyX3_ok, nmX3, Or.inl rfl, tyX3_ok 16 (by decide)⟩
theorem wt_4_17 {y : MethodName} : ww_fst y 4 17 (tyX3 17) := ⟨(RX3, TX3, 18), tyX3, rfl, tyX3_ok, nmX3, Or.inl rfl, tyX3_ok 17 (by decide)⟩
theorem wu_5 : ∀ w ∈ u_ws RX4 TX4 4, w ∈ ww_GW := by
  intro w hw
  obtain ⟨k, hk, rfl⟩ := List.mem_map.mp hw
  have hk := List.mem_range.mp hk
  have h1 : ∀ k, k < 4 → lw_tbl[([275, 277, 279, 281] : List Nat).getD k 0]? = some (u_lay RX4 TX4 k) := by decide +kernel
  have h2 : ∀ k, k < 4 → goodWord (u_lay RX4 TX4 k) = true := by decide +kernel
  exact ww_gw (List.mem_of_getElem? (h1 k hk)) (h2 k hk)
theorem wt_5_0 {y : MethodName} : ww_fst y 5 0 (tyX4 0) := ⟨(RX4, TX4, 4), tyX4, rfl, tyX4_ok, nmX4, Or.inl rfl, tyX4_ok 0 (by decide)⟩
theorem wt_5_1 {y : MethodName} : ww_fst y 5 1 (tyX4 1) := ⟨(RX4, TX4, 4), tyX4, rfl, tyX4_ok, nmX4, Or.inl rfl, tyX4_ok 1 (by decide)⟩
theorem wt_5_2 {y : MethodName} : ww_fst y 5 2 (tyX4 2) := ⟨(RX4, TX4, 4), tyX4, rfl, tyX4_ok, nmX4, Or.inl rfl, tyX4_ok 2 (by decide)⟩
theorem wt_5_3 {y : MethodName} : ww_fst y 5 3 (tyX4 3) := ⟨(RX4, TX4, 4), tyX4, rfl, tyX4_ok, nmX4, Or.inl rfl, tyX4_ok 3 (by decide)⟩
theorem wu_6 : ∀ w ∈ u_ws RX5 TX5 5, w ∈ ww_GW := by
  intro w hw
  obtain ⟨k, hk, rfl⟩ := List.mem_map.mp hw
  have hk := List.mem_range.mp hk
  have h1 : ∀ k, k < 5 → lw_tbl[([115, 117, 119, 121, 123] : List Nat).getD k 0]? = some (u_lay RX5 TX5 k) := by decide +kernel
  have h2 : ∀ k, k < 5 → goodWord (u_lay RX5 TX5 k) = true := by decide +kernel
  exact ww_gw (List.mem_of_getElem? (h1 k hk)) (h2 k hk)
theorem wt_6_0 : ww_fst yX5_init 6 0 (tyX5 0) := ⟨(RX5, TX5, 5), tyX5, rfl, tyX5_ok, nmX5, Or.inr ⟨rfl, rfl, rfl⟩, tyX5_ok 0 (by decide)⟩
theorem wt_6_1 : ww_fst yX5_init 6 1 (tyX5 1) := ⟨(RX5, TX5, 5), tyX5, rfl, tyX5_ok, nmX5, Or.inr ⟨rfl, rfl, rfl⟩, tyX5_ok 1 (by decide)⟩
theorem wt_6_2 : ww_fst yX5_init 6 2 (tyX5 2) := ⟨(RX5, TX5, 5), tyX5, rfl, tyX5_ok, nmX5, Or.inr ⟨rfl, rfl, rfl⟩, tyX5_ok 2 (by decide)⟩
theorem wt_6_3 {y : MethodName} : ww_fst y 6 3 (tyX5 3) := ⟨(RX5, TX5, 5), tyX5, rfl, tyX5_ok, nmX5, Or.inl rfl, tyX5_ok 3 (by decide)⟩
theorem wt_6_4 {y : MethodName} : ww_fst y 6 4 (tyX5 4) := ⟨(RX5, TX5, 5), tyX5, rfl, tyX5_ok, nmX5, Or.inl rfl, tyX5_ok 4 (by decide)⟩
theorem wu_7 : ∀ w ∈ u_ws RX6 TX6 4, w ∈ ww_GW := by
  intro w hw
  obtain ⟨k, hk, rfl⟩ := List.mem_map.mp hw
  have hk := List.mem_range.mp hk
  have h1 : ∀ k, k < 4 → lw_tbl[([147, 149, 151, 153] : List Nat).getD k 0]? = some (u_lay RX6 TX6 k) := by decide +kernel
  have h2 : ∀ k, k < 4 → goodWord (u_lay RX6 TX6 k) = true := by decide +kernel
  exact ww_gw (List.mem_of_getElem? (h1 k hk)) (h2 k hk)
theorem wt_7_0 : ww_fst yX6_init 7 0 (tyX6 0) := ⟨(RX6, TX6, 4), tyX6, rfl, tyX6_ok, nmX6, Or.inr ⟨rfl, rfl, rfl⟩, tyX6_ok 0 (by decide)⟩
theorem wt_7_1 : ww_fst yX6_init 7 1 (tyX6 1) := ⟨(RX6, TX6, 4), tyX6, rfl, tyX6_ok, nmX6, Or.inr ⟨rfl, rfl, rfl⟩, tyX6_ok 1 (by decide)⟩
theorem wt_7_2 : ww_fst yX6_init 7 2 (tyX6 2) := ⟨(RX6, TX6, 4), tyX6, rfl, tyX6_ok, nmX6, Or.inr ⟨rfl, rfl, rfl⟩, tyX6_ok 2 (by decide)⟩
theorem wt_7_3 : ww_fst yX6_init 7 3 (tyX6 3) := ⟨(RX6, TX6, 4), tyX6, rfl, tyX6_ok, nmX6, Or.inr ⟨rfl, rfl, rfl⟩, tyX6_ok 3 (by decide)⟩
theorem wm_70 : Cond.fieldLink RJx4a65c 9 "java/util/ArrayList" "elementData" "[Ljava/lang/Object;" ∈ ww_GW := ww_gw (List.mem_of_getElem? (i := 70) (by decide +kernel)) rfl
theorem wf_Jx4a65c_9 : ww_fld RJx4a65c 9 0 1 := ⟨(RJx4a65c, TJx4a65c, 3), "java/util/ArrayList", rfl, by decide, rfl, wm_70, wu_0, Or.inl rfl⟩
theorem wm_71 : Cond.fieldLink RJx4a65c 48 "java/util/ArrayList" "size" "I" ∈ ww_GW := ww_gw (List.mem_of_getElem? (i := 71) (by decide +kernel)) rfl
theorem wf_Jx4a65c_48 : ww_fld RJx4a65c 48 0 2 := ⟨(RJx4a65c, TJx4a65c, 3), "java/util/ArrayList", rfl, by decide, rfl, wm_71, wu_0, Or.inl rfl⟩
theorem wm_72 : Cond.fieldLink RJxc12de 7 "java/util/AbstractList" "modCount" "I" ∈ ww_GW := ww_gw (List.mem_of_getElem? (i := 72) (by decide +kernel)) rfl
theorem wf_Jxc12de_7 : ww_fld RJxc12de 7 0 0 := ⟨(RJx4a65c, TJx4a65c, 3), "java/util/AbstractList", rfl, by decide, rfl, wm_72, wu_0, Or.inl rfl⟩
theorem wm_73 : Cond.fieldLink RJx4a65c 63 "java/util/ArrayList" "modCount" "I" ∈ ww_GW := ww_gw (List.mem_of_getElem? (i := 73) (by decide +kernel)) rfl
theorem wm_74 : Cond.sameField "java/util/ArrayList" "java/util/AbstractList" "modCount" "I" ∈ ww_GW := ww_gw (List.mem_of_getElem? (i := 74) (by decide +kernel)) rfl
theorem wf_Jx4a65c_63 : ww_fld RJx4a65c 63 0 0 := ⟨(RJx4a65c, TJx4a65c, 3), "java/util/ArrayList", rfl, by decide, rfl, wm_73, wu_0, Or.inr wm_74⟩
theorem wm_92 : Cond.fieldLink RX2 12 "WheelWorks$Log" "events" "Ljava/util/ArrayList;" ∈ ww_GW := ww_gw (List.mem_of_getElem? (i := 92) (by decide +kernel)) rfl
theorem wf_X2_12 : ww_fld RX2 12 3 0 := ⟨(RX2, TX2, 2), "WheelWorks$Log", rfl, by decide, rfl, wm_92, wu_3, Or.inl rfl⟩
theorem wm_93 : Cond.fieldLink RX2 18 "WheelWorks$Log" "hosts" "[I" ∈ ww_GW := ww_gw (List.mem_of_getElem? (i := 93) (by decide +kernel)) rfl
theorem wf_X2_18 : ww_fld RX2 18 3 1 := ⟨(RX2, TX2, 2), "WheelWorks$Log", rfl, by decide, rfl, wm_93, wu_3, Or.inl rfl⟩
theorem wm_108 : Cond.fieldLink RX5 12 "WheelWorks$Yard" "waiting" "Ljava/util/ArrayList;" ∈ ww_GW := ww_gw (List.mem_of_getElem? (i := 108) (by decide +kernel)) rfl
theorem wf_X5_12 : ww_fld RX5 12 6 0 := ⟨(RX5, TX5, 5), "WheelWorks$Yard", rfl, by decide, rfl, wm_108, wu_6, Or.inl rfl⟩
theorem wm_109 : Cond.fieldLink RX6 263 "WheelWorks$Yard" "waiting" "Ljava/util/ArrayList;" ∈ ww_GW := ww_gw (List.mem_of_getElem? (i := 109) (by decide +kernel)) rfl
theorem wf_X6_263 : ww_fld RX6 263 6 0 := ⟨(RX5, TX5, 5), "WheelWorks$Yard", rfl, by decide, rfl, wm_109, wu_6, Or.inl rfl⟩
theorem wm_110 : Cond.fieldLink RX5 18 "WheelWorks$Yard" "standing" "Ljava/util/ArrayList;" ∈ ww_GW := ww_gw (List.mem_of_getElem? (i := 110) (by decide +kernel)) rfl
theorem wf_X5_18 : ww_fld RX5 18 6 1 := ⟨(RX5, TX5, 5), "WheelWorks$Yard", rfl, by decide, rfl, wm_110, wu_6, Or.inl rfl⟩
theorem wm_111 : Cond.fieldLink RX6 280 "WheelWorks$Yard" "standing" "Ljava/util/ArrayList;" ∈ ww_GW := ww_gw (List.mem_of_getElem? (i := 111) (by decide +kernel)) rfl
theorem wf_X6_280 : ww_fld RX6 280 6 1 := ⟨(RX5, TX5, 5), "WheelWorks$Yard", rfl, by decide, rfl, wm_111, wu_6, Or.inl rfl⟩
theorem wm_112 : Cond.fieldLink RX5 21 "WheelWorks$Yard" "blocked" "[I" ∈ ww_GW := ww_gw (List.mem_of_getElem? (i := 112) (by decide +kernel)) rfl
theorem wf_X5_21 : ww_fld RX5 21 6 2 := ⟨(RX5, TX5, 5), "WheelWorks$Yard", rfl, by decide, rfl, wm_112, wu_6, Or.inl rfl⟩
theorem wm_113 : Cond.fieldLink RX5 42 "WheelWorks$Yard" "bestMoves" "I" ∈ ww_GW := ww_gw (List.mem_of_getElem? (i := 113) (by decide +kernel)) rfl
theorem wf_X5_42 : ww_fld RX5 42 6 3 := ⟨(RX5, TX5, 5), "WheelWorks$Yard", rfl, by decide, rfl, wm_113, wu_6, Or.inl rfl⟩
theorem wm_114 : Cond.fieldLink RX5 56 "WheelWorks$Yard" "bestPlan" "I" ∈ ww_GW := ww_gw (List.mem_of_getElem? (i := 114) (by decide +kernel)) rfl
theorem wf_X5_56 : ww_fld RX5 56 6 4 := ⟨(RX5, TX5, 5), "WheelWorks$Yard", rfl, by decide, rfl, wm_114, wu_6, Or.inl rfl⟩
theorem wm_131 : Cond.fieldLink RX6 73 "WheelWorks$KindLimits" "life" "I" ∈ ww_GW := ww_gw (List.mem_of_getElem? (i := 131) (by decide +kernel)) rfl
theorem wf_X6_73 : ww_fld RX6 73 2 0 := ⟨(RX1, TX1, 3), "WheelWorks$KindLimits", rfl, by decide, rfl, wm_131, wu_2, Or.inl rfl⟩
theorem wm_132 : Cond.fieldLink RX6 77 "WheelWorks$KindLimits" "interval" "I" ∈ ww_GW := ww_gw (List.mem_of_getElem? (i := 132) (by decide +kernel)) rfl
theorem wf_X6_77 : ww_fld RX6 77 2 1 := ⟨(RX1, TX1, 3), "WheelWorks$KindLimits", rfl, by decide, rfl, wm_132, wu_2, Or.inl rfl⟩
theorem wm_133 : Cond.fieldLink RX3 50 "WheelWorks$KindLimits" "interval" "I" ∈ ww_GW := ww_gw (List.mem_of_getElem? (i := 133) (by decide +kernel)) rfl
theorem wf_X3_50 : ww_fld RX3 50 2 1 := ⟨(RX1, TX1, 3), "WheelWorks$KindLimits", rfl, by decide, rfl, wm_133, wu_2, Or.inl rfl⟩
theorem wm_134 : Cond.fieldLink RX6 80 "WheelWorks$KindLimits" "window" "I" ∈ ww_GW := ww_gw (List.mem_of_getElem? (i := 134) (by decide +kernel)) rfl
theorem wf_X6_80 : ww_fld RX6 80 2 2 := ⟨(RX1, TX1, 3), "WheelWorks$KindLimits", rfl, by decide, rfl, wm_134, wu_2, Or.inl rfl⟩
theorem wm_135 : Cond.fieldLink RX3 58 "WheelWorks$KindLimits" "window" "I" ∈ ww_GW := ww_gw (List.mem_of_getElem? (i := 135) (by decide +kernel)) rfl
theorem wf_X3_58 : ww_fld RX3 58 2 2 := ⟨(RX1, TX1, 3), "WheelWorks$KindLimits", rfl, by decide, rfl, wm_135, wu_2, Or.inl rfl⟩
theorem wm_143 : Cond.fieldLink RX6 10 "WheelWorks" "parts" "Ljava/util/ArrayList;" ∈ ww_GW := ww_gw (List.mem_of_getElem? (i := 143) (by decide +kernel)) rfl
theorem wf_X6_10 : ww_fld RX6 10 7 0 := ⟨(RX6, TX6, 4), "WheelWorks", rfl, by decide, rfl, wm_143, wu_7, Or.inl rfl⟩
theorem wm_144 : Cond.fieldLink RX6 18 "WheelWorks" "kinds" "[LWheelWorks$KindLimits;" ∈ ww_GW := ww_gw (List.mem_of_getElem? (i := 144) (by decide +kernel)) rfl
theorem wf_X6_18 : ww_fld RX6 18 7 1 := ⟨(RX6, TX6, 4), "WheelWorks", rfl, by decide, rfl, wm_144, wu_7, Or.inl rfl⟩
theorem wm_145 : Cond.fieldLink RX6 25 "WheelWorks" "log" "LWheelWorks$Log;" ∈ ww_GW := ww_gw (List.mem_of_getElem? (i := 145) (by decide +kernel)) rfl
theorem wf_X6_25 : ww_fld RX6 25 7 2 := ⟨(RX6, TX6, 4), "WheelWorks", rfl, by decide, rfl, wm_145, wu_7, Or.inl rfl⟩
theorem wm_146 : Cond.fieldLink RX6 32 "WheelWorks" "yard" "LWheelWorks$Yard;" ∈ ww_GW := ww_gw (List.mem_of_getElem? (i := 146) (by decide +kernel)) rfl
theorem wf_X6_32 : ww_fld RX6 32 7 3 := ⟨(RX6, TX6, 4), "WheelWorks", rfl, by decide, rfl, wm_146, wu_7, Or.inl rfl⟩
theorem wm_268 : Cond.fieldLink RX4 9 "WheelWorks$Wheel" "diameter" "I" ∈ ww_GW := ww_gw (List.mem_of_getElem? (i := 268) (by decide +kernel)) rfl
theorem wf_X4_9 : ww_fld RX4 9 5 0 := ⟨(RX4, TX4, 4), "WheelWorks$Wheel", rfl, by decide, rfl, wm_268, wu_5, Or.inl rfl⟩
theorem wm_269 : Cond.fieldLink RX6 196 "WheelWorks$Wheel" "diameter" "I" ∈ ww_GW := ww_gw (List.mem_of_getElem? (i := 269) (by decide +kernel)) rfl
theorem wf_X6_196 : ww_fld RX6 196 5 0 := ⟨(RX4, TX4, 4), "WheelWorks$Wheel", rfl, by decide, rfl, wm_269, wu_5, Or.inl rfl⟩
theorem wm_270 : Cond.fieldLink RX4 15 "WheelWorks$Wheel" "flange" "I" ∈ ww_GW := ww_gw (List.mem_of_getElem? (i := 270) (by decide +kernel)) rfl
theorem wf_X4_15 : ww_fld RX4 15 5 1 := ⟨(RX4, TX4, 4), "WheelWorks$Wheel", rfl, by decide, rfl, wm_270, wu_5, Or.inl rfl⟩
theorem wm_271 : Cond.fieldLink RX6 213 "WheelWorks$Wheel" "flange" "I" ∈ ww_GW := ww_gw (List.mem_of_getElem? (i := 271) (by decide +kernel)) rfl
theorem wf_X6_213 : ww_fld RX6 213 5 1 := ⟨(RX4, TX4, 4), "WheelWorks$Wheel", rfl, by decide, rfl, wm_271, wu_5, Or.inl rfl⟩
theorem wm_272 : Cond.fieldLink RX4 18 "WheelWorks$Wheel" "told" "I" ∈ ww_GW := ww_gw (List.mem_of_getElem? (i := 272) (by decide +kernel)) rfl
theorem wf_X4_18 : ww_fld RX4 18 5 2 := ⟨(RX4, TX4, 4), "WheelWorks$Wheel", rfl, by decide, rfl, wm_272, wu_5, Or.inl rfl⟩
theorem wm_273 : Cond.fieldLink RX6 216 "WheelWorks$Wheel" "told" "I" ∈ ww_GW := ww_gw (List.mem_of_getElem? (i := 273) (by decide +kernel)) rfl
theorem wf_X6_216 : ww_fld RX6 216 5 2 := ⟨(RX4, TX4, 4), "WheelWorks$Wheel", rfl, by decide, rfl, wm_273, wu_5, Or.inl rfl⟩
theorem wm_274 : Cond.fieldLink RX4 21 "WheelWorks$Wheel" "rubbed" "I" ∈ ww_GW := ww_gw (List.mem_of_getElem? (i := 274) (by decide +kernel)) rfl
theorem wf_X4_21 : ww_fld RX4 21 5 3 := ⟨(RX4, TX4, 4), "WheelWorks$Wheel", rfl, by decide, rfl, wm_274, wu_5, Or.inl rfl⟩
theorem wm_284 : Cond.fieldLink RX3 15 "WheelWorks$Part" "number" "I" ∈ ww_GW := ww_gw (List.mem_of_getElem? (i := 284) (by decide +kernel)) rfl
theorem wf_X3_15 : ww_fld RX3 15 4 0 := ⟨(RX3, TX3, 18), "WheelWorks$Part", rfl, by decide, rfl, wm_284, wu_4, Or.inl rfl⟩
theorem wm_285 : Cond.fieldLink RX6 149 "WheelWorks$Part" "number" "I" ∈ ww_GW := ww_gw (List.mem_of_getElem? (i := 285) (by decide +kernel)) rfl
theorem wf_X6_149 : ww_fld RX6 149 4 0 := ⟨(RX3, TX3, 18), "WheelWorks$Part", rfl, by decide, rfl, wm_285, wu_4, Or.inl rfl⟩
theorem wm_286 : Cond.fieldLink RX5 76 "WheelWorks$Part" "number" "I" ∈ ww_GW := ww_gw (List.mem_of_getElem? (i := 286) (by decide +kernel)) rfl
theorem wf_X5_76 : ww_fld RX5 76 4 0 := ⟨(RX3, TX3, 18), "WheelWorks$Part", rfl, by decide, rfl, wm_286, wu_4, Or.inl rfl⟩
theorem wm_287 : Cond.fieldLink RX3 18 "WheelWorks$Part" "kind" "I" ∈ ww_GW := ww_gw (List.mem_of_getElem? (i := 287) (by decide +kernel)) rfl
theorem wf_X3_18 : ww_fld RX3 18 4 1 := ⟨(RX3, TX3, 18), "WheelWorks$Part", rfl, by decide, rfl, wm_287, wu_4, Or.inl rfl⟩
theorem wm_288 : Cond.fieldLink RX6 87 "WheelWorks$Part" "kind" "I" ∈ ww_GW := ww_gw (List.mem_of_getElem? (i := 288) (by decide +kernel)) rfl
theorem wf_X6_87 : ww_fld RX6 87 4 1 := ⟨(RX3, TX3, 18), "WheelWorks$Part", rfl, by decide, rfl, wm_288, wu_4, Or.inl rfl⟩
theorem wm_289 : Cond.fieldLink RX3 21 "WheelWorks$Part" "melt" "I" ∈ ww_GW := ww_gw (List.mem_of_getElem? (i := 289) (by decide +kernel)) rfl
theorem wf_X3_21 : ww_fld RX3 21 4 2 := ⟨(RX3, TX3, 18), "WheelWorks$Part", rfl, by decide, rfl, wm_289, wu_4, Or.inl rfl⟩
theorem wm_290 : Cond.fieldLink RX6 255 "WheelWorks$Part" "melt" "I" ∈ ww_GW := ww_gw (List.mem_of_getElem? (i := 290) (by decide +kernel)) rfl
theorem wf_X6_255 : ww_fld RX6 255 4 2 := ⟨(RX3, TX3, 18), "WheelWorks$Part", rfl, by decide, rfl, wm_290, wu_4, Or.inl rfl⟩
theorem wm_291 : Cond.fieldLink RX3 24 "WheelWorks$Part" "mod" "I" ∈ ww_GW := ww_gw (List.mem_of_getElem? (i := 291) (by decide +kernel)) rfl
theorem wf_X3_24 : ww_fld RX3 24 4 3 := ⟨(RX3, TX3, 18), "WheelWorks$Part", rfl, by decide, rfl, wm_291, wu_4, Or.inl rfl⟩
theorem wm_292 : Cond.fieldLink RX6 118 "WheelWorks$Part" "mod" "I" ∈ ww_GW := ww_gw (List.mem_of_getElem? (i := 292) (by decide +kernel)) rfl
theorem wf_X6_118 : ww_fld RX6 118 4 3 := ⟨(RX3, TX3, 18), "WheelWorks$Part", rfl, by decide, rfl, wm_292, wu_4, Or.inl rfl⟩
theorem wm_293 : Cond.fieldLink RX3 27 "WheelWorks$Part" "limits" "LWheelWorks$KindLimits;" ∈ ww_GW := ww_gw (List.mem_of_getElem? (i := 293) (by decide +kernel)) rfl
theorem wf_X3_27 : ww_fld RX3 27 4 4 := ⟨(RX3, TX3, 18), "WheelWorks$Part", rfl, by decide, rfl, wm_293, wu_4, Or.inl rfl⟩
theorem wm_294 : Cond.fieldLink RX6 232 "WheelWorks$Part" "limits" "LWheelWorks$KindLimits;" ∈ ww_GW := ww_gw (List.mem_of_getElem? (i := 294) (by decide +kernel)) rfl
theorem wf_X6_232 : ww_fld RX6 232 4 4 := ⟨(RX3, TX3, 18), "WheelWorks$Part", rfl, by decide, rfl, wm_294, wu_4, Or.inl rfl⟩
theorem wm_295 : Cond.fieldLink RX3 34 "WheelWorks$Part" "wheel" "LWheelWorks$Wheel;" ∈ ww_GW := ww_gw (List.mem_of_getElem? (i := 295) (by decide +kernel)) rfl
theorem wf_X3_34 : ww_fld RX3 34 4 5 := ⟨(RX3, TX3, 18), "WheelWorks$Part", rfl, by decide, rfl, wm_295, wu_4, Or.inl rfl⟩
theorem wm_296 : Cond.fieldLink RX6 345 "WheelWorks$Part" "wheel" "LWheelWorks$Wheel;" ∈ ww_GW := ww_gw (List.mem_of_getElem? (i := 296) (by decide +kernel)) rfl
theorem wf_X6_345 : ww_fld RX6 345 4 5 := ⟨(RX3, TX3, 18), "WheelWorks$Part", rfl, by decide, rfl, wm_296, wu_4, Or.inl rfl⟩
theorem wm_297 : Cond.fieldLink RX3 38 "WheelWorks$Part" "host" "LWheelWorks$Part;" ∈ ww_GW := ww_gw (List.mem_of_getElem? (i := 297) (by decide +kernel)) rfl
theorem wf_X3_38 : ww_fld RX3 38 4 6 := ⟨(RX3, TX3, 18), "WheelWorks$Part", rfl, by decide, rfl, wm_297, wu_4, Or.inl rfl⟩
theorem wm_298 : Cond.fieldLink RX6 129 "WheelWorks$Part" "host" "LWheelWorks$Part;" ∈ ww_GW := ww_gw (List.mem_of_getElem? (i := 298) (by decide +kernel)) rfl
theorem wf_X6_129 : ww_fld RX6 129 4 6 := ⟨(RX3, TX3, 18), "WheelWorks$Part", rfl, by decide, rfl, wm_298, wu_4, Or.inl rfl⟩
theorem wm_299 : Cond.fieldLink RX3 42 "WheelWorks$Part" "scrapped" "Z" ∈ ww_GW := ww_gw (List.mem_of_getElem? (i := 299) (by decide +kernel)) rfl
theorem wf_X3_42 : ww_fld RX3 42 4 7 := ⟨(RX3, TX3, 18), "WheelWorks$Part", rfl, by decide, rfl, wm_299, wu_4, Or.inl rfl⟩
theorem wm_300 : Cond.fieldLink RX6 106 "WheelWorks$Part" "scrapped" "Z" ∈ ww_GW := ww_gw (List.mem_of_getElem? (i := 300) (by decide +kernel)) rfl
theorem wf_X6_106 : ww_fld RX6 106 4 7 := ⟨(RX3, TX3, 18), "WheelWorks$Part", rfl, by decide, rfl, wm_300, wu_4, Or.inl rfl⟩
theorem wm_301 : Cond.fieldLink RX3 64 "WheelWorks$Part" "life" "I" ∈ ww_GW := ww_gw (List.mem_of_getElem? (i := 301) (by decide +kernel)) rfl
theorem wf_X3_64 : ww_fld RX3 64 4 8 := ⟨(RX3, TX3, 18), "WheelWorks$Part", rfl, by decide, rfl, wm_301, wu_4, Or.inl rfl⟩
theorem wm_302 : Cond.fieldLink RX6 242 "WheelWorks$Part" "life" "I" ∈ ww_GW := ww_gw (List.mem_of_getElem? (i := 302) (by decide +kernel)) rfl
theorem wf_X6_242 : ww_fld RX6 242 4 8 := ⟨(RX3, TX3, 18), "WheelWorks$Part", rfl, by decide, rfl, wm_302, wu_4, Or.inl rfl⟩
theorem wm_303 : Cond.fieldLink RX3 55 "WheelWorks$Part" "sinceExamination" "I" ∈ ww_GW := ww_gw (List.mem_of_getElem? (i := 303) (by decide +kernel)) rfl
theorem wf_X3_55 : ww_fld RX3 55 4 9 := ⟨(RX3, TX3, 18), "WheelWorks$Part", rfl, by decide, rfl, wm_303, wu_4, Or.inl rfl⟩
theorem wm_304 : Cond.fieldLink RX6 224 "WheelWorks$Part" "sinceExamination" "I" ∈ ww_GW := ww_gw (List.mem_of_getElem? (i := 304) (by decide +kernel)) rfl
theorem wf_X6_224 : ww_fld RX6 224 4 9 := ⟨(RX3, TX3, 18), "WheelWorks$Part", rfl, by decide, rfl, wm_304, wu_4, Or.inl rfl⟩
theorem wm_305 : Cond.fieldLink RX3 61 "WheelWorks$Part" "waived" "I" ∈ ww_GW := ww_gw (List.mem_of_getElem? (i := 305) (by decide +kernel)) rfl
theorem wf_X3_61 : ww_fld RX3 61 4 10 := ⟨(RX3, TX3, 18), "WheelWorks$Part", rfl, by decide, rfl, wm_305, wu_4, Or.inl rfl⟩
theorem wm_306 : Cond.fieldLink RX6 227 "WheelWorks$Part" "waived" "I" ∈ ww_GW := ww_gw (List.mem_of_getElem? (i := 306) (by decide +kernel)) rfl
theorem wf_X6_227 : ww_fld RX6 227 4 10 := ⟨(RX3, TX3, 18), "WheelWorks$Part", rfl, by decide, rfl, wm_306, wu_4, Or.inl rfl⟩
theorem wm_307 : Cond.fieldLink RX6 100 "WheelWorks$Part" "quarantined" "Z" ∈ ww_GW := ww_gw (List.mem_of_getElem? (i := 307) (by decide +kernel)) rfl
theorem wf_X6_100 : ww_fld RX6 100 4 11 := ⟨(RX3, TX3, 18), "WheelWorks$Part", rfl, by decide, rfl, wm_307, wu_4, Or.inl rfl⟩
theorem wm_308 : Cond.fieldLink RX6 248 "WheelWorks$Part" "recalled" "Z" ∈ ww_GW := ww_gw (List.mem_of_getElem? (i := 308) (by decide +kernel)) rfl
theorem wf_X6_248 : ww_fld RX6 248 4 12 := ⟨(RX3, TX3, 18), "WheelWorks$Part", rfl, by decide, rfl, wm_308, wu_4, Or.inl rfl⟩
theorem wm_309 : Cond.fieldLink RX6 181 "WheelWorks$Part" "flaw" "I" ∈ ww_GW := ww_gw (List.mem_of_getElem? (i := 309) (by decide +kernel)) rfl
theorem wf_X6_181 : ww_fld RX6 181 4 13 := ⟨(RX3, TX3, 18), "WheelWorks$Part", rfl, by decide, rfl, wm_309, wu_4, Or.inl rfl⟩
theorem wm_310 : Cond.fieldLink RX3 71 "WheelWorks$Part" "flaw" "I" ∈ ww_GW := ww_gw (List.mem_of_getElem? (i := 310) (by decide +kernel)) rfl
theorem wf_X3_71 : ww_fld RX3 71 4 13 := ⟨(RX3, TX3, 18), "WheelWorks$Part", rfl, by decide, rfl, wm_310, wu_4, Or.inl rfl⟩
theorem wm_311 : Cond.fieldLink RX3 74 "WheelWorks$Part" "lifeAtFlaw" "I" ∈ ww_GW := ww_gw (List.mem_of_getElem? (i := 311) (by decide +kernel)) rfl
theorem wf_X3_74 : ww_fld RX3 74 4 14 := ⟨(RX3, TX3, 18), "WheelWorks$Part", rfl, by decide, rfl, wm_311, wu_4, Or.inl rfl⟩
theorem wm_312 : Cond.fieldLink RX6 243 "WheelWorks$Part" "lifeAtFlaw" "I" ∈ ww_GW := ww_gw (List.mem_of_getElem? (i := 312) (by decide +kernel)) rfl
theorem wf_X6_243 : ww_fld RX6 243 4 14 := ⟨(RX3, TX3, 18), "WheelWorks$Part", rfl, by decide, rfl, wm_312, wu_4, Or.inl rfl⟩
theorem wm_313 : Cond.fieldLink RX6 141 "WheelWorks$Part" "released" "Z" ∈ ww_GW := ww_gw (List.mem_of_getElem? (i := 313) (by decide +kernel)) rfl
theorem wf_X6_141 : ww_fld RX6 141 4 15 := ⟨(RX3, TX3, 18), "WheelWorks$Part", rfl, by decide, rfl, wm_313, wu_4, Or.inl rfl⟩
theorem wm_314 : Cond.fieldLink RX3 9 "WheelWorks$Part" "road" "I" ∈ ww_GW := ww_gw (List.mem_of_getElem? (i := 314) (by decide +kernel)) rfl
theorem wf_X3_9 : ww_fld RX3 9 4 16 := ⟨(RX3, TX3, 18), "WheelWorks$Part", rfl, by decide, rfl, wm_314, wu_4, Or.inl rfl⟩
theorem wm_315 : Cond.fieldLink RX5 63 "WheelWorks$Part" "road" "I" ∈ ww_GW := ww_gw (List.mem_of_getElem? (i := 315) (by decide +kernel)) rfl
theorem wf_X5_63 : ww_fld RX5 63 4 16 := ⟨(RX3, TX3, 18), "WheelWorks$Part", rfl, by decide, rfl, wm_315, wu_4, Or.inl rfl⟩
theorem wm_316 : Cond.fieldLink RX5 35 "WheelWorks$Part" "time" "I" ∈ ww_GW := ww_gw (List.mem_of_getElem? (i := 316) (by decide +kernel)) rfl
theorem wf_X5_35 : ww_fld RX5 35 4 17 := ⟨(RX3, TX3, 18), "WheelWorks$Part", rfl, by decide, rfl, wm_316, wu_4, Or.inl rfl⟩
theorem wm_317 : Cond.fieldLink RX6 274 "WheelWorks$Part" "time" "I" ∈ ww_GW := ww_gw (List.mem_of_getElem? (i := 317) (by decide +kernel)) rfl
theorem wf_X6_274 : ww_fld RX6 274 4 17 := ⟨(RX3, TX3, 18), "WheelWorks$Part", rfl, by decide, rfl, wm_317, wu_4, Or.inl rfl⟩
theorem wm_493 : Cond.fieldLink RX0 7 "WheelWorks$Event" "part" "I" ∈ ww_GW := ww_gw (List.mem_of_getElem? (i := 493) (by decide +kernel)) rfl
theorem wf_X0_7 : ww_fld RX0 7 1 0 := ⟨(RX0, TX0, 3), "WheelWorks$Event", rfl, by decide, rfl, wm_493, wu_1, Or.inl rfl⟩
theorem wm_494 : Cond.fieldLink RX2 46 "WheelWorks$Event" "part" "I" ∈ ww_GW := ww_gw (List.mem_of_getElem? (i := 494) (by decide +kernel)) rfl
theorem wf_X2_46 : ww_fld RX2 46 1 0 := ⟨(RX0, TX0, 3), "WheelWorks$Event", rfl, by decide, rfl, wm_494, wu_1, Or.inl rfl⟩
theorem wm_495 : Cond.fieldLink RX0 13 "WheelWorks$Event" "to" "I" ∈ ww_GW := ww_gw (List.mem_of_getElem? (i := 495) (by decide +kernel)) rfl
theorem wf_X0_13 : ww_fld RX0 13 1 1 := ⟨(RX0, TX0, 3), "WheelWorks$Event", rfl, by decide, rfl, wm_495, wu_1, Or.inl rfl⟩
theorem wm_496 : Cond.fieldLink RX2 61 "WheelWorks$Event" "to" "I" ∈ ww_GW := ww_gw (List.mem_of_getElem? (i := 496) (by decide +kernel)) rfl
theorem wf_X2_61 : ww_fld RX2 61 1 1 := ⟨(RX0, TX0, 3), "WheelWorks$Event", rfl, by decide, rfl, wm_496, wu_1, Or.inl rfl⟩
theorem wm_497 : Cond.fieldLink RX6 310 "WheelWorks$Event" "to" "I" ∈ ww_GW := ww_gw (List.mem_of_getElem? (i := 497) (by decide +kernel)) rfl
theorem wf_X6_310 : ww_fld RX6 310 1 1 := ⟨(RX0, TX0, 3), "WheelWorks$Event", rfl, by decide, rfl, wm_497, wu_1, Or.inl rfl⟩
theorem wm_498 : Cond.fieldLink RX0 16 "WheelWorks$Event" "kilometres" "I" ∈ ww_GW := ww_gw (List.mem_of_getElem? (i := 498) (by decide +kernel)) rfl
theorem wf_X0_16 : ww_fld RX0 16 1 2 := ⟨(RX0, TX0, 3), "WheelWorks$Event", rfl, by decide, rfl, wm_498, wu_1, Or.inl rfl⟩
theorem wm_499 : Cond.fieldLink RX2 50 "WheelWorks$Event" "kilometres" "I" ∈ ww_GW := ww_gw (List.mem_of_getElem? (i := 499) (by decide +kernel)) rfl
theorem wf_X2_50 : ww_fld RX2 50 1 2 := ⟨(RX0, TX0, 3), "WheelWorks$Event", rfl, by decide, rfl, wm_499, wu_1, Or.inl rfl⟩
theorem wm_52 : ww_hd wy_X6_init ∈ ww_GW := ww_gw (List.mem_of_getElem? (i := 52) (by decide +kernel)) rfl
theorem wm_25 : Cond.initialized RX6 ∈ ww_GW := ww_gw (List.mem_of_getElem? (i := 25) (by decide +kernel)) rfl
theorem wc_X6_init : ww_cal wy_X6_init 0 := ⟨wm_52, wm_25, ⟨by decide +kernel, by decide +kernel⟩, by decide +kernel, by decide⟩
theorem wm_50 : Cond.methodLink RL 28 yX6_init ∈ ww_GW := ww_gw (List.mem_of_getElem? (i := 50) (by decide +kernel)) rfl
theorem wm_51 : Cond.instanceMethod yX6_init ∈ ww_GW := ww_gw (List.mem_of_getElem? (i := 51) (by decide +kernel)) rfl
theorem wk_L_28 : ww_ini RL 28 wy_X6_init 0 := ⟨wc_X6_init, rfl, wm_50, wm_51, rfl⟩
theorem wm_60 : ww_hd wy_Jx4a65c_init_da8c8 ∈ ww_GW := ww_gw (List.mem_of_getElem? (i := 60) (by decide +kernel)) rfl
theorem wm_28 : Cond.initialized RJx4a65c ∈ ww_GW := ww_gw (List.mem_of_getElem? (i := 28) (by decide +kernel)) rfl
theorem wc_Jx4a65c_init_da8c8 : ww_cal wy_Jx4a65c_init_da8c8 0 := ⟨wm_60, wm_28, ⟨by decide +kernel, by decide +kernel⟩, by decide +kernel, by decide⟩
theorem wm_58 : Cond.methodLink RX6 9 yJx4a65c_init_da8c8 ∈ ww_GW := ww_gw (List.mem_of_getElem? (i := 58) (by decide +kernel)) rfl
theorem wm_59 : Cond.instanceMethod yJx4a65c_init_da8c8 ∈ ww_GW := ww_gw (List.mem_of_getElem? (i := 59) (by decide +kernel)) rfl
theorem wk_X6_9 : ww_ini RX6 9 wy_Jx4a65c_init_da8c8 0 := ⟨wc_Jx4a65c_init_da8c8, rfl, wm_58, wm_59, rfl⟩
theorem wm_63 : ww_hd wy_Jxc12de_init_da8c8 ∈ ww_GW := ww_gw (List.mem_of_getElem? (i := 63) (by decide +kernel)) rfl
theorem wm_27 : Cond.initialized RJxc12de ∈ ww_GW := ww_gw (List.mem_of_getElem? (i := 27) (by decide +kernel)) rfl
theorem wc_Jxc12de_init_da8c8 : ww_cal wy_Jxc12de_init_da8c8 0 := ⟨wm_63, wm_27, ⟨by decide +kernel, by decide +kernel⟩, by decide +kernel, by decide⟩
theorem wm_61 : Cond.methodLink RJx4a65c 1 yJxc12de_init_da8c8 ∈ ww_GW := ww_gw (List.mem_of_getElem? (i := 61) (by decide +kernel)) rfl
theorem wm_62 : Cond.instanceMethod yJxc12de_init_da8c8 ∈ ww_GW := ww_gw (List.mem_of_getElem? (i := 62) (by decide +kernel)) rfl
theorem wk_Jx4a65c_1 : ww_ini RJx4a65c 1 wy_Jxc12de_init_da8c8 0 := ⟨wc_Jxc12de_init_da8c8, rfl, wm_61, wm_62, rfl⟩
theorem wm_66 : ww_hd wy_Jxa1e45_init_da8c8 ∈ ww_GW := ww_gw (List.mem_of_getElem? (i := 66) (by decide +kernel)) rfl
theorem wm_26 : Cond.initialized RJxa1e45 ∈ ww_GW := ww_gw (List.mem_of_getElem? (i := 26) (by decide +kernel)) rfl
theorem wc_Jxa1e45_init_da8c8 : ww_cal wy_Jxa1e45_init_da8c8 0 := ⟨wm_66, wm_26, ⟨by decide +kernel, by decide +kernel⟩, by decide +kernel, by decide⟩
theorem wm_64 : Cond.methodLink RJxc12de 1 yJxa1e45_init_da8c8 ∈ ww_GW := ww_gw (List.mem_of_getElem? (i := 64) (by decide +kernel)) rfl
theorem wm_65 : Cond.instanceMethod yJxa1e45_init_da8c8 ∈ ww_GW := ww_gw (List.mem_of_getElem? (i := 65) (by decide +kernel)) rfl
theorem wk_Jxc12de_1 : ww_ini RJxc12de 1 wy_Jxa1e45_init_da8c8 0 := ⟨wc_Jxa1e45_init_da8c8, rfl, wm_64, wm_65, rfl⟩
theorem wm_88 : ww_hd wy_X2_init ∈ ww_GW := ww_gw (List.mem_of_getElem? (i := 88) (by decide +kernel)) rfl
theorem wm_29 : Cond.initialized RX2 ∈ ww_GW := ww_gw (List.mem_of_getElem? (i := 29) (by decide +kernel)) rfl
theorem wc_X2_init : ww_cal wy_X2_init 0 := ⟨wm_88, wm_29, ⟨by decide +kernel, by decide +kernel⟩, by decide +kernel, by decide⟩
theorem wm_87 : Cond.instanceMethod yX2_init ∈ ww_GW := ww_gw (List.mem_of_getElem? (i := 87) (by decide +kernel)) rfl
theorem wk_X6_24 : ww_inn RX6 24 wy_X2_init 0 := ⟨wc_X2_init, rfl, ⟨"WheelWorks", by decide +kernel⟩, wm_87, rfl⟩
theorem wm_91 : Cond.methodLink RX2 11 yJx4a65c_init_da8c8 ∈ ww_GW := ww_gw (List.mem_of_getElem? (i := 91) (by decide +kernel)) rfl
theorem wk_X2_11 : ww_ini RX2 11 wy_Jx4a65c_init_da8c8 0 := ⟨wc_Jx4a65c_init_da8c8, rfl, wm_91, wm_59, rfl⟩
theorem wm_104 : ww_hd wy_X5_init ∈ ww_GW := ww_gw (List.mem_of_getElem? (i := 104) (by decide +kernel)) rfl
theorem wm_30 : Cond.initialized RX5 ∈ ww_GW := ww_gw (List.mem_of_getElem? (i := 30) (by decide +kernel)) rfl
theorem wc_X5_init : ww_cal wy_X5_init 0 := ⟨wm_104, wm_30, ⟨by decide +kernel, by decide +kernel⟩, by decide +kernel, by decide⟩
theorem wm_103 : Cond.instanceMethod yX5_init ∈ ww_GW := ww_gw (List.mem_of_getElem? (i := 103) (by decide +kernel)) rfl
theorem wk_X6_31 : ww_inn RX6 31 wy_X5_init 0 := ⟨wc_X5_init, rfl, ⟨"WheelWorks", by decide +kernel⟩, wm_103, rfl⟩
theorem wm_107 : Cond.methodLink RX5 11 yJx4a65c_init_da8c8 ∈ ww_GW := ww_gw (List.mem_of_getElem? (i := 107) (by decide +kernel)) rfl
theorem wk_X5_11 : ww_ini RX5 11 wy_Jx4a65c_init_da8c8 0 := ⟨wc_Jx4a65c_init_da8c8, rfl, wm_107, wm_59, rfl⟩
theorem wm_129 : ww_hd wy_X1_init ∈ ww_GW := ww_gw (List.mem_of_getElem? (i := 129) (by decide +kernel)) rfl
theorem wm_31 : Cond.initialized RX1 ∈ ww_GW := ww_gw (List.mem_of_getElem? (i := 31) (by decide +kernel)) rfl
theorem wc_X1_init : ww_cal wy_X1_init 0 := ⟨wm_129, wm_31, ⟨by decide +kernel, by decide +kernel⟩, by decide +kernel, by decide⟩
theorem wm_128 : Cond.instanceMethod yX1_init ∈ ww_GW := ww_gw (List.mem_of_getElem? (i := 128) (by decide +kernel)) rfl
theorem wk_X6_36 : ww_inn RX6 36 wy_X1_init 0 := ⟨wc_X1_init, rfl, ⟨"WheelWorks", by decide +kernel⟩, wm_128, rfl⟩
theorem wm_159 : ww_hd wy_X6_part ∈ ww_GW := ww_gw (List.mem_of_getElem? (i := 159) (by decide +kernel)) rfl
theorem wc_X6_part : ww_cal wy_X6_part 3 := ⟨wm_159, wm_25, ⟨by decide +kernel, by decide +kernel⟩, by decide +kernel, by decide⟩
theorem wm_156 : Cond.methodLink RL 8 yX6_part ∈ ww_GW := ww_gw (List.mem_of_getElem? (i := 156) (by decide +kernel)) rfl
theorem wm_157 : Cond.instanceMethod yX6_part ∈ ww_GW := ww_gw (List.mem_of_getElem? (i := 157) (by decide +kernel)) rfl
theorem wm_158 : Cond.selects RX6 yX6_part yX6_part ∈ ww_GW := ww_gw (List.mem_of_getElem? (i := 158) (by decide +kernel)) rfl
theorem wk_L_8 : ww_vir RL 8 wy_X6_part 3 := ⟨wc_X6_part, rfl, wm_156, wm_157, wm_158⟩
theorem wm_163 : ww_hd wy_X6_limitsOf ∈ ww_GW := ww_gw (List.mem_of_getElem? (i := 163) (by decide +kernel)) rfl
theorem wc_X6_limitsOf : ww_cal wy_X6_limitsOf 1 := ⟨wm_163, wm_25, ⟨by decide +kernel, by decide +kernel⟩, by decide +kernel, by decide⟩
theorem wm_160 : Cond.methodLink RX6 37 yX6_limitsOf ∈ ww_GW := ww_gw (List.mem_of_getElem? (i := 160) (by decide +kernel)) rfl
theorem wm_162 : Cond.instanceMethod yX6_limitsOf ∈ ww_GW := ww_gw (List.mem_of_getElem? (i := 162) (by decide +kernel)) rfl
theorem wm_0 : Cond.selects RX6 yX6_limitsOf yX6_limitsOf ∈ ww_GW := ww_gw (List.mem_of_getElem? (i := 0) (by decide +kernel)) rfl
theorem wk_X6_37 : ww_vir RX6 37 wy_X6_limitsOf 1 := ⟨wc_X6_limitsOf, rfl, wm_160, wm_162, wm_0⟩
theorem wm_234 : ww_hd wy_X6_isOutside ∈ ww_GW := ww_gw (List.mem_of_getElem? (i := 234) (by decide +kernel)) rfl
theorem wc_X6_isOutside : ww_cal wy_X6_isOutside 3 := ⟨wm_234, wm_25, ⟨by decide +kernel, by decide +kernel⟩, by decide +kernel, by decide⟩
theorem wm_232 : Cond.methodLink RX6 41 yX6_isOutside ∈ ww_GW := ww_gw (List.mem_of_getElem? (i := 232) (by decide +kernel)) rfl
theorem wm_233 : Cond.static yX6_isOutside ∈ ww_GW := ww_gw (List.mem_of_getElem? (i := 233) (by decide +kernel)) rfl
theorem wk_X6_41 : ww_sta RX6 41 wy_X6_isOutside 3 := ⟨wc_X6_isOutside, wm_232, wm_233⟩
theorem wm_239 : ww_hd wy_Jx4a65c_size_8abf5 ∈ ww_GW := ww_gw (List.mem_of_getElem? (i := 239) (by decide +kernel)) rfl
theorem wc_Jx4a65c_size_8abf5 : ww_cal wy_Jx4a65c_size_8abf5 0 := ⟨wm_239, wm_28, ⟨by decide +kernel, by decide +kernel⟩, by decide +kernel, by decide⟩
theorem wm_236 : Cond.methodLink RX6 52 yJx4a65c_size_8abf5 ∈ ww_GW := ww_gw (List.mem_of_getElem? (i := 236) (by decide +kernel)) rfl
theorem wm_237 : Cond.instanceMethod yJx4a65c_size_8abf5 ∈ ww_GW := ww_gw (List.mem_of_getElem? (i := 237) (by decide +kernel)) rfl
theorem wm_238 : Cond.selects RJx4a65c yJx4a65c_size_8abf5 yJx4a65c_size_8abf5 ∈ ww_GW := ww_gw (List.mem_of_getElem? (i := 238) (by decide +kernel)) rfl
theorem wk_X6_52 : ww_vir RX6 52 wy_Jx4a65c_size_8abf5 0 := ⟨wc_Jx4a65c_size_8abf5, rfl, wm_236, wm_237, wm_238⟩
theorem wm_260 : ww_hd wy_X3_init ∈ ww_GW := ww_gw (List.mem_of_getElem? (i := 260) (by decide +kernel)) rfl
theorem wm_37 : Cond.initialized RX3 ∈ ww_GW := ww_gw (List.mem_of_getElem? (i := 37) (by decide +kernel)) rfl
theorem wc_X3_init : ww_cal wy_X3_init 5 := ⟨wm_260, wm_37, ⟨by decide +kernel, by decide +kernel⟩, by decide +kernel, by decide⟩
theorem wm_258 : Cond.methodLink RX6 63 yX3_init ∈ ww_GW := ww_gw (List.mem_of_getElem? (i := 258) (by decide +kernel)) rfl
theorem wm_259 : Cond.instanceMethod yX3_init ∈ ww_GW := ww_gw (List.mem_of_getElem? (i := 259) (by decide +kernel)) rfl
theorem wk_X6_63 : ww_ini RX6 63 wy_X3_init 5 := ⟨wc_X3_init, rfl, wm_258, wm_259, rfl⟩
theorem wm_266 : ww_hd wy_X4_init ∈ ww_GW := ww_gw (List.mem_of_getElem? (i := 266) (by decide +kernel)) rfl
theorem wm_38 : Cond.initialized RX4 ∈ ww_GW := ww_gw (List.mem_of_getElem? (i := 38) (by decide +kernel)) rfl
theorem wc_X4_init : ww_cal wy_X4_init 0 := ⟨wm_266, wm_38, ⟨by decide +kernel, by decide +kernel⟩, by decide +kernel, by decide⟩
theorem wm_265 : Cond.instanceMethod yX4_init ∈ ww_GW := ww_gw (List.mem_of_getElem? (i := 265) (by decide +kernel)) rfl
theorem wk_X3_33 : ww_inn RX3 33 wy_X4_init 0 := ⟨wc_X4_init, rfl, ⟨"WheelWorks", by decide +kernel⟩, wm_265, rfl⟩
theorem wm_358 : ww_hd wy_Jx4a65c_add_9ea2d ∈ ww_GW := ww_gw (List.mem_of_getElem? (i := 358) (by decide +kernel)) rfl
theorem wc_Jx4a65c_add_9ea2d : ww_cal wy_Jx4a65c_add_9ea2d 1 := ⟨wm_358, wm_28, ⟨by decide +kernel, by decide +kernel⟩, by decide +kernel, by decide⟩
theorem wm_355 : Cond.methodLink RX6 66 yJx4a65c_add_9ea2d ∈ ww_GW := ww_gw (List.mem_of_getElem? (i := 355) (by decide +kernel)) rfl
theorem wm_356 : Cond.instanceMethod yJx4a65c_add_9ea2d ∈ ww_GW := ww_gw (List.mem_of_getElem? (i := 356) (by decide +kernel)) rfl
theorem wm_357 : Cond.selects RJx4a65c yJx4a65c_add_9ea2d yJx4a65c_add_9ea2d ∈ ww_GW := ww_gw (List.mem_of_getElem? (i := 357) (by decide +kernel)) rfl
theorem wk_X6_66 : ww_vir RX6 66 wy_Jx4a65c_add_9ea2d 1 := ⟨wc_Jx4a65c_add_9ea2d, rfl, wm_355, wm_356, wm_357⟩
theorem wm_362 : ww_hd wy_Jx4a65c_add_72be8 ∈ ww_GW := ww_gw (List.mem_of_getElem? (i := 362) (by decide +kernel)) rfl
theorem wc_Jx4a65c_add_72be8 : ww_cal wy_Jx4a65c_add_72be8 3 := ⟨wm_362, wm_28, ⟨by decide +kernel, by decide +kernel⟩, by decide +kernel, by decide⟩
theorem wm_359 : Cond.methodLink RJx4a65c 131 yJx4a65c_add_72be8 ∈ ww_GW := ww_gw (List.mem_of_getElem? (i := 359) (by decide +kernel)) rfl
theorem wm_361 : Cond.instanceMethod yJx4a65c_add_72be8 ∈ ww_GW := ww_gw (List.mem_of_getElem? (i := 361) (by decide +kernel)) rfl
theorem wm_2 : Cond.selects RJx4a65c yJx4a65c_add_72be8 yJx4a65c_add_72be8 ∈ ww_GW := ww_gw (List.mem_of_getElem? (i := 2) (by decide +kernel)) rfl
theorem wk_Jx4a65c_131 : ww_vir RJx4a65c 131 wy_Jx4a65c_add_72be8 3 := ⟨wc_Jx4a65c_add_72be8, rfl, wm_359, wm_361, wm_2⟩
theorem wm_366 : ww_hd wy_Jx4a65c_grow_d5877 ∈ ww_GW := ww_gw (List.mem_of_getElem? (i := 366) (by decide +kernel)) rfl
theorem wc_Jx4a65c_grow_d5877 : ww_cal wy_Jx4a65c_grow_d5877 0 := ⟨wm_366, wm_28, ⟨by decide +kernel, by decide +kernel⟩, by decide +kernel, by decide⟩
theorem wm_363 : Cond.methodLink RJx4a65c 129 yJx4a65c_grow_d5877 ∈ ww_GW := ww_gw (List.mem_of_getElem? (i := 363) (by decide +kernel)) rfl
theorem wm_365 : Cond.instanceMethod yJx4a65c_grow_d5877 ∈ ww_GW := ww_gw (List.mem_of_getElem? (i := 365) (by decide +kernel)) rfl
theorem wm_3 : Cond.selects RJx4a65c yJx4a65c_grow_d5877 yJx4a65c_grow_d5877 ∈ ww_GW := ww_gw (List.mem_of_getElem? (i := 3) (by decide +kernel)) rfl
theorem wk_Jx4a65c_129 : ww_vir RJx4a65c 129 wy_Jx4a65c_grow_d5877 0 := ⟨wc_Jx4a65c_grow_d5877, rfl, wm_363, wm_365, wm_3⟩
theorem wm_370 : ww_hd wy_Jx4a65c_grow_92f84 ∈ ww_GW := ww_gw (List.mem_of_getElem? (i := 370) (by decide +kernel)) rfl
theorem wc_Jx4a65c_grow_92f84 : ww_cal wy_Jx4a65c_grow_92f84 1 := ⟨wm_370, wm_28, ⟨by decide +kernel, by decide +kernel⟩, by decide +kernel, by decide⟩
theorem wm_367 : Cond.methodLink RJx4a65c 69 yJx4a65c_grow_92f84 ∈ ww_GW := ww_gw (List.mem_of_getElem? (i := 367) (by decide +kernel)) rfl
theorem wm_369 : Cond.instanceMethod yJx4a65c_grow_92f84 ∈ ww_GW := ww_gw (List.mem_of_getElem? (i := 369) (by decide +kernel)) rfl
theorem wm_4 : Cond.selects RJx4a65c yJx4a65c_grow_92f84 yJx4a65c_grow_92f84 ∈ ww_GW := ww_gw (List.mem_of_getElem? (i := 4) (by decide +kernel)) rfl
theorem wk_Jx4a65c_69 : ww_vir RJx4a65c 69 wy_Jx4a65c_grow_92f84 1 := ⟨wc_Jx4a65c_grow_92f84, rfl, wm_367, wm_369, wm_4⟩
theorem wm_373 : ww_hd wy_J8_newLength_cabcc ∈ ww_GW := ww_gw (List.mem_of_getElem? (i := 373) (by decide +kernel)) rfl
theorem wm_39 : Cond.initialized RJ8 ∈ ww_GW := ww_gw (List.mem_of_getElem? (i := 39) (by decide +kernel)) rfl
theorem wc_J8_newLength_cabcc : ww_cal wy_J8_newLength_cabcc 3 := ⟨wm_373, wm_39, ⟨by decide +kernel, by decide +kernel⟩, by decide +kernel, by decide⟩
theorem wm_371 : Cond.methodLink RJx4a65c 73 yJ8_newLength_cabcc ∈ ww_GW := ww_gw (List.mem_of_getElem? (i := 371) (by decide +kernel)) rfl
theorem wm_372 : Cond.static yJ8_newLength_cabcc ∈ ww_GW := ww_gw (List.mem_of_getElem? (i := 372) (by decide +kernel)) rfl
theorem wk_Jx4a65c_73 : ww_sta RJx4a65c 73 wy_J8_newLength_cabcc 3 := ⟨wc_J8_newLength_cabcc, wm_371, wm_372⟩
theorem wm_376 : ww_hd wy_J9_max_7cf53 ∈ ww_GW := ww_gw (List.mem_of_getElem? (i := 376) (by decide +kernel)) rfl
theorem wm_40 : Cond.initialized RJ9 ∈ ww_GW := ww_gw (List.mem_of_getElem? (i := 40) (by decide +kernel)) rfl
theorem wc_J9_max_7cf53 : ww_cal wy_J9_max_7cf53 2 := ⟨wm_376, wm_40, ⟨by decide +kernel, by decide +kernel⟩, by decide +kernel, by decide⟩
theorem wm_374 : Cond.methodLink RJ8 194 yJ9_max_7cf53 ∈ ww_GW := ww_gw (List.mem_of_getElem? (i := 374) (by decide +kernel)) rfl
theorem wm_375 : Cond.static yJ9_max_7cf53 ∈ ww_GW := ww_gw (List.mem_of_getElem? (i := 375) (by decide +kernel)) rfl
theorem wk_J8_194 : ww_sta RJ8 194 wy_J9_max_7cf53 2 := ⟨wc_J9_max_7cf53, wm_374, wm_375⟩
theorem wm_380 : ww_hd wy_J8_hugeLength_7cf53 ∈ ww_GW := ww_gw (List.mem_of_getElem? (i := 380) (by decide +kernel)) rfl
theorem wc_J8_hugeLength_7cf53 : ww_cal wy_J8_hugeLength_7cf53 2 := ⟨wm_380, wm_39, ⟨by decide +kernel, by decide +kernel⟩, by decide +kernel, by decide⟩
theorem wm_378 : Cond.methodLink RJ8 201 yJ8_hugeLength_7cf53 ∈ ww_GW := ww_gw (List.mem_of_getElem? (i := 378) (by decide +kernel)) rfl
theorem wm_379 : Cond.static yJ8_hugeLength_7cf53 ∈ ww_GW := ww_gw (List.mem_of_getElem? (i := 379) (by decide +kernel)) rfl
theorem wk_J8_201 : ww_sta RJ8 201 wy_J8_hugeLength_7cf53 2 := ⟨wc_J8_hugeLength_7cf53, wm_378, wm_379⟩
theorem wm_383 : ww_hd wy_J7_copyOf_1904c ∈ ww_GW := ww_gw (List.mem_of_getElem? (i := 383) (by decide +kernel)) rfl
theorem wm_41 : Cond.initialized RJ7 ∈ ww_GW := ww_gw (List.mem_of_getElem? (i := 41) (by decide +kernel)) rfl
theorem wc_J7_copyOf_1904c : ww_cal wy_J7_copyOf_1904c 2 := ⟨wm_383, wm_41, ⟨by decide +kernel, by decide +kernel⟩, by decide +kernel, by decide⟩
theorem wm_381 : Cond.methodLink RJx4a65c 66 yJ7_copyOf_1904c ∈ ww_GW := ww_gw (List.mem_of_getElem? (i := 381) (by decide +kernel)) rfl
theorem wm_382 : Cond.static yJ7_copyOf_1904c ∈ ww_GW := ww_gw (List.mem_of_getElem? (i := 382) (by decide +kernel)) rfl
theorem wk_Jx4a65c_66 : ww_sta RJx4a65c 66 wy_J7_copyOf_1904c 2 := ⟨wc_J7_copyOf_1904c, wm_381, wm_382⟩
theorem wm_401 : ww_hd wy_J7_copyOf_6403c ∈ ww_GW := ww_gw (List.mem_of_getElem? (i := 401) (by decide +kernel)) rfl
theorem wc_J7_copyOf_6403c : ww_cal wy_J7_copyOf_6403c 3 := ⟨wm_401, wm_41, ⟨by decide +kernel, by decide +kernel⟩, by decide +kernel, by decide⟩
theorem wm_399 : Cond.methodLink RJ7 300 yJ7_copyOf_6403c ∈ ww_GW := ww_gw (List.mem_of_getElem? (i := 399) (by decide +kernel)) rfl
theorem wm_400 : Cond.static yJ7_copyOf_6403c ∈ ww_GW := ww_gw (List.mem_of_getElem? (i := 400) (by decide +kernel)) rfl
theorem wk_J7_300 : ww_sta RJ7 300 wy_J7_copyOf_6403c 3 := ⟨wc_J7_copyOf_6403c, wm_399, wm_400⟩
theorem wm_407 : ww_hd wy_J9_min_7cf53 ∈ ww_GW := ww_gw (List.mem_of_getElem? (i := 407) (by decide +kernel)) rfl
theorem wc_J9_min_7cf53 : ww_cal wy_J9_min_7cf53 2 := ⟨wm_407, wm_40, ⟨by decide +kernel, by decide +kernel⟩, by decide +kernel, by decide⟩
theorem wm_405 : Cond.methodLink RJ7 304 yJ9_min_7cf53 ∈ ww_GW := ww_gw (List.mem_of_getElem? (i := 405) (by decide +kernel)) rfl
theorem wm_406 : Cond.static yJ9_min_7cf53 ∈ ww_GW := ww_gw (List.mem_of_getElem? (i := 406) (by decide +kernel)) rfl
theorem wk_J7_304 : ww_sta RJ7 304 wy_J9_min_7cf53 2 := ⟨wc_J9_min_7cf53, wm_405, wm_406⟩
theorem wm_411 : Cond.methodLink RJx4a65c 79 yJ9_max_7cf53 ∈ ww_GW := ww_gw (List.mem_of_getElem? (i := 411) (by decide +kernel)) rfl
theorem wk_Jx4a65c_79 : ww_sta RJx4a65c 79 wy_J9_max_7cf53 2 := ⟨wc_J9_max_7cf53, wm_411, wm_375⟩
theorem wm_416 : ww_hd wy_X6_limits ∈ ww_GW := ww_gw (List.mem_of_getElem? (i := 416) (by decide +kernel)) rfl
theorem wc_X6_limits : ww_cal wy_X6_limits 4 := ⟨wm_416, wm_25, ⟨by decide +kernel, by decide +kernel⟩, by decide +kernel, by decide⟩
theorem wm_413 : Cond.methodLink RL 35 yX6_limits ∈ ww_GW := ww_gw (List.mem_of_getElem? (i := 413) (by decide +kernel)) rfl
theorem wm_414 : Cond.instanceMethod yX6_limits ∈ ww_GW := ww_gw (List.mem_of_getElem? (i := 414) (by decide +kernel)) rfl
theorem wm_415 : Cond.selects RX6 yX6_limits yX6_limits ∈ ww_GW := ww_gw (List.mem_of_getElem? (i := 415) (by decide +kernel)) rfl
theorem wk_L_35 : ww_vir RL 35 wy_X6_limits 4 := ⟨wc_X6_limits, rfl, wm_413, wm_414, wm_415⟩
theorem wm_422 : ww_hd wy_X6_fit ∈ ww_GW := ww_gw (List.mem_of_getElem? (i := 422) (by decide +kernel)) rfl
theorem wc_X6_fit : ww_cal wy_X6_fit 2 := ⟨wm_422, wm_25, ⟨by decide +kernel, by decide +kernel⟩, by decide +kernel, by decide⟩
theorem wm_419 : Cond.methodLink RL 14 yX6_fit ∈ ww_GW := ww_gw (List.mem_of_getElem? (i := 419) (by decide +kernel)) rfl
theorem wm_420 : Cond.instanceMethod yX6_fit ∈ ww_GW := ww_gw (List.mem_of_getElem? (i := 420) (by decide +kernel)) rfl
theorem wm_421 : Cond.selects RX6 yX6_fit yX6_fit ∈ ww_GW := ww_gw (List.mem_of_getElem? (i := 421) (by decide +kernel)) rfl
theorem wk_L_14 : ww_vir RL 14 wy_X6_fit 2 := ⟨wc_X6_fit, rfl, wm_419, wm_420, wm_421⟩
theorem wm_426 : ww_hd wy_X6_existing ∈ ww_GW := ww_gw (List.mem_of_getElem? (i := 426) (by decide +kernel)) rfl
theorem wc_X6_existing : ww_cal wy_X6_existing 1 := ⟨wm_426, wm_25, ⟨by decide +kernel, by decide +kernel⟩, by decide +kernel, by decide⟩
theorem wm_423 : Cond.methodLink RX6 83 yX6_existing ∈ ww_GW := ww_gw (List.mem_of_getElem? (i := 423) (by decide +kernel)) rfl
theorem wm_425 : Cond.instanceMethod yX6_existing ∈ ww_GW := ww_gw (List.mem_of_getElem? (i := 425) (by decide +kernel)) rfl
theorem wm_5 : Cond.selects RX6 yX6_existing yX6_existing ∈ ww_GW := ww_gw (List.mem_of_getElem? (i := 5) (by decide +kernel)) rfl
theorem wk_X6_83 : ww_vir RX6 83 wy_X6_existing 1 := ⟨wc_X6_existing, rfl, wm_423, wm_425, wm_5⟩
theorem wm_446 : ww_hd wy_Jx4a65c_get_915e3 ∈ ww_GW := ww_gw (List.mem_of_getElem? (i := 446) (by decide +kernel)) rfl
theorem wc_Jx4a65c_get_915e3 : ww_cal wy_Jx4a65c_get_915e3 1 := ⟨wm_446, wm_28, ⟨by decide +kernel, by decide +kernel⟩, by decide +kernel, by decide⟩
theorem wm_443 : Cond.methodLink RX6 171 yJx4a65c_get_915e3 ∈ ww_GW := ww_gw (List.mem_of_getElem? (i := 443) (by decide +kernel)) rfl
theorem wm_444 : Cond.instanceMethod yJx4a65c_get_915e3 ∈ ww_GW := ww_gw (List.mem_of_getElem? (i := 444) (by decide +kernel)) rfl
theorem wm_445 : Cond.selects RJx4a65c yJx4a65c_get_915e3 yJx4a65c_get_915e3 ∈ ww_GW := ww_gw (List.mem_of_getElem? (i := 445) (by decide +kernel)) rfl
theorem wk_X6_171 : ww_vir RX6 171 wy_Jx4a65c_get_915e3 1 := ⟨wc_Jx4a65c_get_915e3, rfl, wm_443, wm_444, wm_445⟩
theorem wm_449 : ww_hd wy_J15_checkIndex_7cf53 ∈ ww_GW := ww_gw (List.mem_of_getElem? (i := 449) (by decide +kernel)) rfl
theorem wm_44 : Cond.initialized RJ15 ∈ ww_GW := ww_gw (List.mem_of_getElem? (i := 44) (by decide +kernel)) rfl
theorem wc_J15_checkIndex_7cf53 : ww_cal wy_J15_checkIndex_7cf53 2 := ⟨wm_449, wm_44, ⟨by decide +kernel, by decide +kernel⟩, by decide +kernel, by decide⟩
theorem wm_447 : Cond.methodLink RJx4a65c 118 yJ15_checkIndex_7cf53 ∈ ww_GW := ww_gw (List.mem_of_getElem? (i := 447) (by decide +kernel)) rfl
theorem wm_448 : Cond.static yJ15_checkIndex_7cf53 ∈ ww_GW := ww_gw (List.mem_of_getElem? (i := 448) (by decide +kernel)) rfl
theorem wk_Jx4a65c_118 : ww_sta RJx4a65c 118 wy_J15_checkIndex_7cf53 2 := ⟨wc_J15_checkIndex_7cf53, wm_447, wm_448⟩
theorem wm_452 : ww_hd wy_J3_checkIndex_8e157 ∈ ww_GW := ww_gw (List.mem_of_getElem? (i := 452) (by decide +kernel)) rfl
theorem wm_45 : Cond.initialized RJ3 ∈ ww_GW := ww_gw (List.mem_of_getElem? (i := 45) (by decide +kernel)) rfl
theorem wc_J3_checkIndex_8e157 : ww_cal wy_J3_checkIndex_8e157 3 := ⟨wm_452, wm_45, ⟨by decide +kernel, by decide +kernel⟩, by decide +kernel, by decide⟩
theorem wm_450 : Cond.methodLink RJ15 105 yJ3_checkIndex_8e157 ∈ ww_GW := ww_gw (List.mem_of_getElem? (i := 450) (by decide +kernel)) rfl
theorem wm_451 : Cond.static yJ3_checkIndex_8e157 ∈ ww_GW := ww_gw (List.mem_of_getElem? (i := 451) (by decide +kernel)) rfl
theorem wk_J15_105 : ww_sta RJ15 105 wy_J3_checkIndex_8e157 3 := ⟨wc_J3_checkIndex_8e157, wm_450, wm_451⟩
theorem wm_456 : ww_hd wy_Jx4a65c_elementData_915e3 ∈ ww_GW := ww_gw (List.mem_of_getElem? (i := 456) (by decide +kernel)) rfl
theorem wc_Jx4a65c_elementData_915e3 : ww_cal wy_Jx4a65c_elementData_915e3 1 := ⟨wm_456, wm_28, ⟨by decide +kernel, by decide +kernel⟩, by decide +kernel, by decide⟩
theorem wm_453 : Cond.methodLink RJx4a65c 123 yJx4a65c_elementData_915e3 ∈ ww_GW := ww_gw (List.mem_of_getElem? (i := 453) (by decide +kernel)) rfl
theorem wm_454 : Cond.instanceMethod yJx4a65c_elementData_915e3 ∈ ww_GW := ww_gw (List.mem_of_getElem? (i := 454) (by decide +kernel)) rfl
theorem wm_455 : Cond.selects RJx4a65c yJx4a65c_elementData_915e3 yJx4a65c_elementData_915e3 ∈ ww_GW := ww_gw (List.mem_of_getElem? (i := 455) (by decide +kernel)) rfl
theorem wk_Jx4a65c_123 : ww_vir RJx4a65c 123 wy_Jx4a65c_elementData_915e3 1 := ⟨wc_Jx4a65c_elementData_915e3, rfl, wm_453, wm_454, wm_455⟩
theorem wm_459 : ww_hd wy_X6_placesFor ∈ ww_GW := ww_gw (List.mem_of_getElem? (i := 459) (by decide +kernel)) rfl
theorem wc_X6_placesFor : ww_cal wy_X6_placesFor 2 := ⟨wm_459, wm_25, ⟨by decide +kernel, by decide +kernel⟩, by decide +kernel, by decide⟩
theorem wm_457 : Cond.methodLink RX6 90 yX6_placesFor ∈ ww_GW := ww_gw (List.mem_of_getElem? (i := 457) (by decide +kernel)) rfl
theorem wm_458 : Cond.static yX6_placesFor ∈ ww_GW := ww_gw (List.mem_of_getElem? (i := 458) (by decide +kernel)) rfl
theorem wk_X6_90 : ww_sta RX6 90 wy_X6_placesFor 2 := ⟨wc_X6_placesFor, wm_457, wm_458⟩
theorem wm_464 : ww_hd wy_X3_isInStore ∈ ww_GW := ww_gw (List.mem_of_getElem? (i := 464) (by decide +kernel)) rfl
theorem wc_X3_isInStore : ww_cal wy_X3_isInStore 0 := ⟨wm_464, wm_37, ⟨by decide +kernel, by decide +kernel⟩, by decide +kernel, by decide⟩
theorem wm_461 : Cond.methodLink RX6 96 yX3_isInStore ∈ ww_GW := ww_gw (List.mem_of_getElem? (i := 461) (by decide +kernel)) rfl
theorem wm_462 : Cond.instanceMethod yX3_isInStore ∈ ww_GW := ww_gw (List.mem_of_getElem? (i := 462) (by decide +kernel)) rfl
theorem wm_463 : Cond.selects RX3 yX3_isInStore yX3_isInStore ∈ ww_GW := ww_gw (List.mem_of_getElem? (i := 463) (by decide +kernel)) rfl
theorem wk_X6_96 : ww_vir RX6 96 wy_X3_isInStore 0 := ⟨wc_X3_isInStore, rfl, wm_461, wm_462, wm_463⟩
theorem wm_469 : ww_hd wy_X3_isBound ∈ ww_GW := ww_gw (List.mem_of_getElem? (i := 469) (by decide +kernel)) rfl
theorem wc_X3_isBound : ww_cal wy_X3_isBound 0 := ⟨wm_469, wm_37, ⟨by decide +kernel, by decide +kernel⟩, by decide +kernel, by decide⟩
theorem wm_466 : Cond.methodLink RX6 109 yX3_isBound ∈ ww_GW := ww_gw (List.mem_of_getElem? (i := 466) (by decide +kernel)) rfl
theorem wm_467 : Cond.instanceMethod yX3_isBound ∈ ww_GW := ww_gw (List.mem_of_getElem? (i := 467) (by decide +kernel)) rfl
theorem wm_468 : Cond.selects RX3 yX3_isBound yX3_isBound ∈ ww_GW := ww_gw (List.mem_of_getElem? (i := 468) (by decide +kernel)) rfl
theorem wk_X6_109 : ww_vir RX6 109 wy_X3_isBound 0 := ⟨wc_X3_isBound, rfl, wm_466, wm_467, wm_468⟩
theorem wm_473 : ww_hd wy_X3_top ∈ ww_GW := ww_gw (List.mem_of_getElem? (i := 473) (by decide +kernel)) rfl
theorem wc_X3_top : ww_cal wy_X3_top 0 := ⟨wm_473, wm_37, ⟨by decide +kernel, by decide +kernel⟩, by decide +kernel, by decide⟩
theorem wm_470 : Cond.methodLink RX3 46 yX3_top ∈ ww_GW := ww_gw (List.mem_of_getElem? (i := 470) (by decide +kernel)) rfl
theorem wm_471 : Cond.instanceMethod yX3_top ∈ ww_GW := ww_gw (List.mem_of_getElem? (i := 471) (by decide +kernel)) rfl
theorem wm_472 : Cond.selects RX3 yX3_top yX3_top ∈ ww_GW := ww_gw (List.mem_of_getElem? (i := 472) (by decide +kernel)) rfl
theorem wk_X3_46 : ww_vir RX3 46 wy_X3_top 0 := ⟨wc_X3_top, rfl, wm_470, wm_471, wm_472⟩
theorem wm_477 : ww_hd wy_X6_inside ∈ ww_GW := ww_gw (List.mem_of_getElem? (i := 477) (by decide +kernel)) rfl
theorem wc_X6_inside : ww_cal wy_X6_inside 2 := ⟨wm_477, wm_25, ⟨by decide +kernel, by decide +kernel⟩, by decide +kernel, by decide⟩
theorem wm_474 : Cond.methodLink RX6 112 yX6_inside ∈ ww_GW := ww_gw (List.mem_of_getElem? (i := 474) (by decide +kernel)) rfl
theorem wm_476 : Cond.instanceMethod yX6_inside ∈ ww_GW := ww_gw (List.mem_of_getElem? (i := 476) (by decide +kernel)) rfl
theorem wm_6 : Cond.selects RX6 yX6_inside yX6_inside ∈ ww_GW := ww_gw (List.mem_of_getElem? (i := 6) (by decide +kernel)) rfl
theorem wk_X6_112 : ww_vir RX6 112 wy_X6_inside 2 := ⟨wc_X6_inside, rfl, wm_474, wm_476, wm_6⟩
theorem wm_481 : ww_hd wy_J9_abs_0f7a4 ∈ ww_GW := ww_gw (List.mem_of_getElem? (i := 481) (by decide +kernel)) rfl
theorem wc_J9_abs_0f7a4 : ww_cal wy_J9_abs_0f7a4 1 := ⟨wm_481, wm_40, ⟨by decide +kernel, by decide +kernel⟩, by decide +kernel, by decide⟩
theorem wm_479 : Cond.methodLink RX6 121 yJ9_abs_0f7a4 ∈ ww_GW := ww_gw (List.mem_of_getElem? (i := 479) (by decide +kernel)) rfl
theorem wm_480 : Cond.static yJ9_abs_0f7a4 ∈ ww_GW := ww_gw (List.mem_of_getElem? (i := 480) (by decide +kernel)) rfl
theorem wk_X6_121 : ww_sta RX6 121 wy_J9_abs_0f7a4 1 := ⟨wc_J9_abs_0f7a4, wm_479, wm_480⟩
theorem wm_486 : ww_hd wy_X2_addMove ∈ ww_GW := ww_gw (List.mem_of_getElem? (i := 486) (by decide +kernel)) rfl
theorem wc_X2_addMove : ww_cal wy_X2_addMove 2 := ⟨wm_486, wm_29, ⟨by decide +kernel, by decide +kernel⟩, by decide +kernel, by decide⟩
theorem wm_483 : Cond.methodLink RX6 133 yX2_addMove ∈ ww_GW := ww_gw (List.mem_of_getElem? (i := 483) (by decide +kernel)) rfl
theorem wm_484 : Cond.instanceMethod yX2_addMove ∈ ww_GW := ww_gw (List.mem_of_getElem? (i := 484) (by decide +kernel)) rfl
theorem wm_485 : Cond.selects RX2 yX2_addMove yX2_addMove ∈ ww_GW := ww_gw (List.mem_of_getElem? (i := 485) (by decide +kernel)) rfl
theorem wk_X6_133 : ww_vir RX6 133 wy_X2_addMove 2 := ⟨wc_X2_addMove, rfl, wm_483, wm_484, wm_485⟩
theorem wm_491 : ww_hd wy_X0_init ∈ ww_GW := ww_gw (List.mem_of_getElem? (i := 491) (by decide +kernel)) rfl
theorem wm_46 : Cond.initialized RX0 ∈ ww_GW := ww_gw (List.mem_of_getElem? (i := 46) (by decide +kernel)) rfl
theorem wc_X0_init : ww_cal wy_X0_init 3 := ⟨wm_491, wm_46, ⟨by decide +kernel, by decide +kernel⟩, by decide +kernel, by decide⟩
theorem wm_489 : Cond.methodLink RX2 24 yX0_init ∈ ww_GW := ww_gw (List.mem_of_getElem? (i := 489) (by decide +kernel)) rfl
theorem wm_490 : Cond.instanceMethod yX0_init ∈ ww_GW := ww_gw (List.mem_of_getElem? (i := 490) (by decide +kernel)) rfl
theorem wk_X2_24 : ww_ini RX2 24 wy_X0_init 3 := ⟨wc_X0_init, rfl, wm_489, wm_490, rfl⟩
theorem wm_510 : ww_hd wy_X2_add ∈ ww_GW := ww_gw (List.mem_of_getElem? (i := 510) (by decide +kernel)) rfl
theorem wc_X2_add : ww_cal wy_X2_add 1 := ⟨wm_510, wm_29, ⟨by decide +kernel, by decide +kernel⟩, by decide +kernel, by decide⟩
theorem wm_507 : Cond.methodLink RX2 27 yX2_add ∈ ww_GW := ww_gw (List.mem_of_getElem? (i := 507) (by decide +kernel)) rfl
theorem wm_509 : Cond.instanceMethod yX2_add ∈ ww_GW := ww_gw (List.mem_of_getElem? (i := 509) (by decide +kernel)) rfl
theorem wm_7 : Cond.selects RX2 yX2_add yX2_add ∈ ww_GW := ww_gw (List.mem_of_getElem? (i := 7) (by decide +kernel)) rfl
theorem wk_X2_27 : ww_vir RX2 27 wy_X2_add 1 := ⟨wc_X2_add, rfl, wm_507, wm_509, wm_7⟩
theorem wm_511 : Cond.methodLink RX2 31 yJx4a65c_size_8abf5 ∈ ww_GW := ww_gw (List.mem_of_getElem? (i := 511) (by decide +kernel)) rfl
theorem wk_X2_31 : ww_vir RX2 31 wy_Jx4a65c_size_8abf5 0 := ⟨wc_Jx4a65c_size_8abf5, rfl, wm_511, wm_237, wm_238⟩
theorem wm_512 : Cond.methodLink RX2 35 yJx4a65c_add_9ea2d ∈ ww_GW := ww_gw (List.mem_of_getElem? (i := 512) (by decide +kernel)) rfl
theorem wk_X2_35 : ww_vir RX2 35 wy_Jx4a65c_add_9ea2d 1 := ⟨wc_Jx4a65c_add_9ea2d, rfl, wm_512, wm_356, wm_357⟩
theorem wm_513 : Cond.methodLink RX6 137 yX3_top ∈ ww_GW := ww_gw (List.mem_of_getElem? (i := 513) (by decide +kernel)) rfl
theorem wk_X6_137 : ww_vir RX6 137 wy_X3_top 0 := ⟨wc_X3_top, rfl, wm_513, wm_471, wm_472⟩
theorem wm_517 : ww_hd wy_X6_inside_ ∈ ww_GW := ww_gw (List.mem_of_getElem? (i := 517) (by decide +kernel)) rfl
theorem wc_X6_inside_ : ww_cal wy_X6_inside_ 1 := ⟨wm_517, wm_25, ⟨by decide +kernel, by decide +kernel⟩, by decide +kernel, by decide⟩
theorem wm_514 : Cond.methodLink RX6 144 yX6_inside_ ∈ ww_GW := ww_gw (List.mem_of_getElem? (i := 514) (by decide +kernel)) rfl
theorem wm_516 : Cond.instanceMethod yX6_inside_ ∈ ww_GW := ww_gw (List.mem_of_getElem? (i := 516) (by decide +kernel)) rfl
theorem wm_8 : Cond.selects RX6 yX6_inside_ yX6_inside_ ∈ ww_GW := ww_gw (List.mem_of_getElem? (i := 8) (by decide +kernel)) rfl
theorem wk_X6_144 : ww_vir RX6 144 wy_X6_inside_ 1 := ⟨wc_X6_inside_, rfl, wm_514, wm_516, wm_8⟩
theorem wm_521 : ww_hd wy_X6_take ∈ ww_GW := ww_gw (List.mem_of_getElem? (i := 521) (by decide +kernel)) rfl
theorem wc_X6_take : ww_cal wy_X6_take 1 := ⟨wm_521, wm_25, ⟨by decide +kernel, by decide +kernel⟩, by decide +kernel, by decide⟩
theorem wm_518 : Cond.methodLink RL 73 yX6_take ∈ ww_GW := ww_gw (List.mem_of_getElem? (i := 518) (by decide +kernel)) rfl
theorem wm_519 : Cond.instanceMethod yX6_take ∈ ww_GW := ww_gw (List.mem_of_getElem? (i := 519) (by decide +kernel)) rfl
theorem wm_520 : Cond.selects RX6 yX6_take yX6_take ∈ ww_GW := ww_gw (List.mem_of_getElem? (i := 520) (by decide +kernel)) rfl
theorem wk_L_73 : ww_vir RL 73 wy_X6_take 1 := ⟨wc_X6_take, rfl, wm_518, wm_519, wm_520⟩
theorem wm_526 : ww_hd wy_X6_scrap ∈ ww_GW := ww_gw (List.mem_of_getElem? (i := 526) (by decide +kernel)) rfl
theorem wc_X6_scrap : ww_cal wy_X6_scrap 1 := ⟨wm_526, wm_25, ⟨by decide +kernel, by decide +kernel⟩, by decide +kernel, by decide⟩
theorem wm_523 : Cond.methodLink RL 69 yX6_scrap ∈ ww_GW := ww_gw (List.mem_of_getElem? (i := 523) (by decide +kernel)) rfl
theorem wm_524 : Cond.instanceMethod yX6_scrap ∈ ww_GW := ww_gw (List.mem_of_getElem? (i := 524) (by decide +kernel)) rfl
theorem wm_525 : Cond.selects RX6 yX6_scrap yX6_scrap ∈ ww_GW := ww_gw (List.mem_of_getElem? (i := 525) (by decide +kernel)) rfl
theorem wk_L_69 : ww_vir RL 69 wy_X6_scrap 1 := ⟨wc_X6_scrap, rfl, wm_523, wm_524, wm_525⟩
theorem wm_531 : ww_hd wy_X5_isWaiting ∈ ww_GW := ww_gw (List.mem_of_getElem? (i := 531) (by decide +kernel)) rfl
theorem wc_X5_isWaiting : ww_cal wy_X5_isWaiting 1 := ⟨wm_531, wm_30, ⟨by decide +kernel, by decide +kernel⟩, by decide +kernel, by decide⟩
theorem wm_528 : Cond.methodLink RX6 154 yX5_isWaiting ∈ ww_GW := ww_gw (List.mem_of_getElem? (i := 528) (by decide +kernel)) rfl
theorem wm_529 : Cond.instanceMethod yX5_isWaiting ∈ ww_GW := ww_gw (List.mem_of_getElem? (i := 529) (by decide +kernel)) rfl
theorem wm_530 : Cond.selects RX5 yX5_isWaiting yX5_isWaiting ∈ ww_GW := ww_gw (List.mem_of_getElem? (i := 530) (by decide +kernel)) rfl
theorem wk_X6_154 : ww_vir RX6 154 wy_X5_isWaiting 1 := ⟨wc_X5_isWaiting, rfl, wm_528, wm_529, wm_530⟩
theorem wm_532 : Cond.methodLink RX5 25 yJx4a65c_size_8abf5 ∈ ww_GW := ww_gw (List.mem_of_getElem? (i := 532) (by decide +kernel)) rfl
theorem wk_X5_25 : ww_vir RX5 25 wy_Jx4a65c_size_8abf5 0 := ⟨wc_Jx4a65c_size_8abf5, rfl, wm_532, wm_237, wm_238⟩
theorem wm_533 : Cond.methodLink RX5 29 yJx4a65c_get_915e3 ∈ ww_GW := ww_gw (List.mem_of_getElem? (i := 533) (by decide +kernel)) rfl
theorem wk_X5_29 : ww_vir RX5 29 wy_Jx4a65c_get_915e3 1 := ⟨wc_Jx4a65c_get_915e3, rfl, wm_533, wm_444, wm_445⟩
theorem wm_538 : ww_hd wy_X6_run ∈ ww_GW := ww_gw (List.mem_of_getElem? (i := 538) (by decide +kernel)) rfl
theorem wc_X6_run : ww_cal wy_X6_run 3 := ⟨wm_538, wm_25, ⟨by decide +kernel, by decide +kernel⟩, by decide +kernel, by decide⟩
theorem wm_535 : Cond.methodLink RL 66 yX6_run ∈ ww_GW := ww_gw (List.mem_of_getElem? (i := 535) (by decide +kernel)) rfl
theorem wm_536 : Cond.instanceMethod yX6_run ∈ ww_GW := ww_gw (List.mem_of_getElem? (i := 536) (by decide +kernel)) rfl
theorem wm_537 : Cond.selects RX6 yX6_run yX6_run ∈ ww_GW := ww_gw (List.mem_of_getElem? (i := 537) (by decide +kernel)) rfl
theorem wk_L_66 : ww_vir RL 66 wy_X6_run 3 := ⟨wc_X6_run, rfl, wm_535, wm_536, wm_537⟩
theorem wm_542 : ww_hd wy_X6_existingTrain ∈ ww_GW := ww_gw (List.mem_of_getElem? (i := 542) (by decide +kernel)) rfl
theorem wc_X6_existingTrain : ww_cal wy_X6_existingTrain 1 := ⟨wm_542, wm_25, ⟨by decide +kernel, by decide +kernel⟩, by decide +kernel, by decide⟩
theorem wm_539 : Cond.methodLink RX6 160 yX6_existingTrain ∈ ww_GW := ww_gw (List.mem_of_getElem? (i := 539) (by decide +kernel)) rfl
theorem wm_541 : Cond.instanceMethod yX6_existingTrain ∈ ww_GW := ww_gw (List.mem_of_getElem? (i := 541) (by decide +kernel)) rfl
theorem wm_9 : Cond.selects RX6 yX6_existingTrain yX6_existingTrain ∈ ww_GW := ww_gw (List.mem_of_getElem? (i := 9) (by decide +kernel)) rfl
theorem wk_X6_160 : ww_vir RX6 160 wy_X6_existingTrain 1 := ⟨wc_X6_existingTrain, rfl, wm_539, wm_541, wm_9⟩
theorem wm_546 : ww_hd wy_X6_checkRun ∈ ww_GW := ww_gw (List.mem_of_getElem? (i := 546) (by decide +kernel)) rfl
theorem wc_X6_checkRun : ww_cal wy_X6_checkRun 2 := ⟨wm_546, wm_25, ⟨by decide +kernel, by decide +kernel⟩, by decide +kernel, by decide⟩
theorem wm_544 : Cond.methodLink RX6 163 yX6_checkRun ∈ ww_GW := ww_gw (List.mem_of_getElem? (i := 544) (by decide +kernel)) rfl
theorem wm_545 : Cond.static yX6_checkRun ∈ ww_GW := ww_gw (List.mem_of_getElem? (i := 545) (by decide +kernel)) rfl
theorem wk_X6_163 : ww_sta RX6 163 wy_X6_checkRun 2 := ⟨wc_X6_checkRun, wm_544, wm_545⟩
theorem wm_552 : ww_hd wy_X2_addRun ∈ ww_GW := ww_gw (List.mem_of_getElem? (i := 552) (by decide +kernel)) rfl
theorem wc_X2_addRun : ww_cal wy_X2_addRun 2 := ⟨wm_552, wm_29, ⟨by decide +kernel, by decide +kernel⟩, by decide +kernel, by decide⟩
theorem wm_549 : Cond.methodLink RX6 168 yX2_addRun ∈ ww_GW := ww_gw (List.mem_of_getElem? (i := 549) (by decide +kernel)) rfl
theorem wm_550 : Cond.instanceMethod yX2_addRun ∈ ww_GW := ww_gw (List.mem_of_getElem? (i := 550) (by decide +kernel)) rfl
theorem wm_551 : Cond.selects RX2 yX2_addRun yX2_addRun ∈ ww_GW := ww_gw (List.mem_of_getElem? (i := 551) (by decide +kernel)) rfl
theorem wk_X6_168 : ww_vir RX6 168 wy_X2_addRun 2 := ⟨wc_X2_addRun, rfl, wm_549, wm_550, wm_551⟩
theorem wm_555 : ww_hd wy_X6_rubbing ∈ ww_GW := ww_gw (List.mem_of_getElem? (i := 555) (by decide +kernel)) rfl
theorem wc_X6_rubbing : ww_cal wy_X6_rubbing 1 := ⟨wm_555, wm_25, ⟨by decide +kernel, by decide +kernel⟩, by decide +kernel, by decide⟩
theorem wm_553 : Cond.methodLink RX6 175 yX6_rubbing ∈ ww_GW := ww_gw (List.mem_of_getElem? (i := 553) (by decide +kernel)) rfl
theorem wm_554 : Cond.static yX6_rubbing ∈ ww_GW := ww_gw (List.mem_of_getElem? (i := 554) (by decide +kernel)) rfl
theorem wk_X6_175 : ww_sta RX6 175 wy_X6_rubbing 1 := ⟨wc_X6_rubbing, wm_553, wm_554⟩
theorem wm_559 : ww_hd wy_X3_runs ∈ ww_GW := ww_gw (List.mem_of_getElem? (i := 559) (by decide +kernel)) rfl
theorem wc_X3_runs : ww_cal wy_X3_runs 2 := ⟨wm_559, wm_37, ⟨by decide +kernel, by decide +kernel⟩, by decide +kernel, by decide⟩
theorem wm_556 : Cond.methodLink RX6 178 yX3_runs ∈ ww_GW := ww_gw (List.mem_of_getElem? (i := 556) (by decide +kernel)) rfl
theorem wm_557 : Cond.instanceMethod yX3_runs ∈ ww_GW := ww_gw (List.mem_of_getElem? (i := 557) (by decide +kernel)) rfl
theorem wm_558 : Cond.selects RX3 yX3_runs yX3_runs ∈ ww_GW := ww_gw (List.mem_of_getElem? (i := 558) (by decide +kernel)) rfl
theorem wk_X6_178 : ww_vir RX6 178 wy_X3_runs 2 := ⟨wc_X3_runs, rfl, wm_556, wm_557, wm_558⟩
theorem wm_563 : ww_hd wy_X4_wear ∈ ww_GW := ww_gw (List.mem_of_getElem? (i := 563) (by decide +kernel)) rfl
theorem wc_X4_wear : ww_cal wy_X4_wear 2 := ⟨wm_563, wm_38, ⟨by decide +kernel, by decide +kernel⟩, by decide +kernel, by decide⟩
theorem wm_560 : Cond.methodLink RX3 67 yX4_wear ∈ ww_GW := ww_gw (List.mem_of_getElem? (i := 560) (by decide +kernel)) rfl
theorem wm_561 : Cond.instanceMethod yX4_wear ∈ ww_GW := ww_gw (List.mem_of_getElem? (i := 561) (by decide +kernel)) rfl
theorem wm_562 : Cond.selects RX4 yX4_wear yX4_wear ∈ ww_GW := ww_gw (List.mem_of_getElem? (i := 562) (by decide +kernel)) rfl
theorem wk_X3_67 : ww_vir RX3 67 wy_X4_wear 2 := ⟨wc_X4_wear, rfl, wm_560, wm_561, wm_562⟩
theorem wm_567 : ww_hd wy_X3_growFlaw ∈ ww_GW := ww_gw (List.mem_of_getElem? (i := 567) (by decide +kernel)) rfl
theorem wc_X3_growFlaw : ww_cal wy_X3_growFlaw 1 := ⟨wm_567, wm_37, ⟨by decide +kernel, by decide +kernel⟩, by decide +kernel, by decide⟩
theorem wm_564 : Cond.methodLink RX3 77 yX3_growFlaw ∈ ww_GW := ww_gw (List.mem_of_getElem? (i := 564) (by decide +kernel)) rfl
theorem wm_566 : Cond.instanceMethod yX3_growFlaw ∈ ww_GW := ww_gw (List.mem_of_getElem? (i := 566) (by decide +kernel)) rfl
theorem wm_10 : Cond.selects RX3 yX3_growFlaw yX3_growFlaw ∈ ww_GW := ww_gw (List.mem_of_getElem? (i := 10) (by decide +kernel)) rfl
theorem wk_X3_77 : ww_vir RX3 77 wy_X3_growFlaw 1 := ⟨wc_X3_growFlaw, rfl, wm_564, wm_566, wm_10⟩
theorem wm_571 : ww_hd wy_X6_quarantineTree ∈ ww_GW := ww_gw (List.mem_of_getElem? (i := 571) (by decide +kernel)) rfl
theorem wc_X6_quarantineTree : ww_cal wy_X6_quarantineTree 1 := ⟨wm_571, wm_25, ⟨by decide +kernel, by decide +kernel⟩, by decide +kernel, by decide⟩
theorem wm_568 : Cond.methodLink RX6 184 yX6_quarantineTree ∈ ww_GW := ww_gw (List.mem_of_getElem? (i := 568) (by decide +kernel)) rfl
theorem wm_570 : Cond.instanceMethod yX6_quarantineTree ∈ ww_GW := ww_gw (List.mem_of_getElem? (i := 570) (by decide +kernel)) rfl
theorem wm_11 : Cond.selects RX6 yX6_quarantineTree yX6_quarantineTree ∈ ww_GW := ww_gw (List.mem_of_getElem? (i := 11) (by decide +kernel)) rfl
theorem wk_X6_184 : ww_vir RX6 184 wy_X6_quarantineTree 1 := ⟨wc_X6_quarantineTree, rfl, wm_568, wm_570, wm_11⟩
theorem wm_575 : ww_hd wy_X6_turn ∈ ww_GW := ww_gw (List.mem_of_getElem? (i := 575) (by decide +kernel)) rfl
theorem wc_X6_turn : ww_cal wy_X6_turn 1 := ⟨wm_575, wm_25, ⟨by decide +kernel, by decide +kernel⟩, by decide +kernel, by decide⟩
theorem wm_572 : Cond.methodLink RL 83 yX6_turn ∈ ww_GW := ww_gw (List.mem_of_getElem? (i := 572) (by decide +kernel)) rfl
theorem wm_573 : Cond.instanceMethod yX6_turn ∈ ww_GW := ww_gw (List.mem_of_getElem? (i := 573) (by decide +kernel)) rfl
theorem wm_574 : Cond.selects RX6 yX6_turn yX6_turn ∈ ww_GW := ww_gw (List.mem_of_getElem? (i := 574) (by decide +kernel)) rfl
theorem wk_L_83 : ww_vir RL 83 wy_X6_turn 1 := ⟨wc_X6_turn, rfl, wm_572, wm_573, wm_574⟩
theorem wm_580 : ww_hd wy_X6_wheelIn ∈ ww_GW := ww_gw (List.mem_of_getElem? (i := 580) (by decide +kernel)) rfl
theorem wc_X6_wheelIn : ww_cal wy_X6_wheelIn 2 := ⟨wm_580, wm_25, ⟨by decide +kernel, by decide +kernel⟩, by decide +kernel, by decide⟩
theorem wm_577 : Cond.methodLink RX6 190 yX6_wheelIn ∈ ww_GW := ww_gw (List.mem_of_getElem? (i := 577) (by decide +kernel)) rfl
theorem wm_579 : Cond.instanceMethod yX6_wheelIn ∈ ww_GW := ww_gw (List.mem_of_getElem? (i := 579) (by decide +kernel)) rfl
theorem wm_12 : Cond.selects RX6 yX6_wheelIn yX6_wheelIn ∈ ww_GW := ww_gw (List.mem_of_getElem? (i := 12) (by decide +kernel)) rfl
theorem wk_X6_190 : ww_vir RX6 190 wy_X6_wheelIn 2 := ⟨wc_X6_wheelIn, rfl, wm_577, wm_579, wm_12⟩
theorem wm_585 : ww_hd wy_X4_renewFlange ∈ ww_GW := ww_gw (List.mem_of_getElem? (i := 585) (by decide +kernel)) rfl
theorem wc_X4_renewFlange : ww_cal wy_X4_renewFlange 0 := ⟨wm_585, wm_38, ⟨by decide +kernel, by decide +kernel⟩, by decide +kernel, by decide⟩
theorem wm_582 : Cond.methodLink RX6 201 yX4_renewFlange ∈ ww_GW := ww_gw (List.mem_of_getElem? (i := 582) (by decide +kernel)) rfl
theorem wm_583 : Cond.instanceMethod yX4_renewFlange ∈ ww_GW := ww_gw (List.mem_of_getElem? (i := 583) (by decide +kernel)) rfl
theorem wm_584 : Cond.selects RX4 yX4_renewFlange yX4_renewFlange ∈ ww_GW := ww_gw (List.mem_of_getElem? (i := 584) (by decide +kernel)) rfl
theorem wk_X6_201 : ww_vir RX6 201 wy_X4_renewFlange 0 := ⟨wc_X4_renewFlange, rfl, wm_582, wm_583, wm_584⟩
theorem wm_586 : Cond.methodLink RX6 204 yJ9_min_7cf53 ∈ ww_GW := ww_gw (List.mem_of_getElem? (i := 586) (by decide +kernel)) rfl
theorem wk_X6_204 : ww_sta RX6 204 wy_J9_min_7cf53 2 := ⟨wc_J9_min_7cf53, wm_586, wm_406⟩
theorem wm_590 : ww_hd wy_X6_gate ∈ ww_GW := ww_gw (List.mem_of_getElem? (i := 590) (by decide +kernel)) rfl
theorem wc_X6_gate : ww_cal wy_X6_gate 2 := ⟨wm_590, wm_25, ⟨by decide +kernel, by decide +kernel⟩, by decide +kernel, by decide⟩
theorem wm_587 : Cond.methodLink RL 86 yX6_gate ∈ ww_GW := ww_gw (List.mem_of_getElem? (i := 587) (by decide +kernel)) rfl
theorem wm_588 : Cond.instanceMethod yX6_gate ∈ ww_GW := ww_gw (List.mem_of_getElem? (i := 588) (by decide +kernel)) rfl
theorem wm_589 : Cond.selects RX6 yX6_gate yX6_gate ∈ ww_GW := ww_gw (List.mem_of_getElem? (i := 589) (by decide +kernel)) rfl
theorem wk_L_86 : ww_vir RL 86 wy_X6_gate 2 := ⟨wc_X6_gate, rfl, wm_587, wm_588, wm_589⟩
theorem wm_594 : ww_hd wy_X6_existingWheel ∈ ww_GW := ww_gw (List.mem_of_getElem? (i := 594) (by decide +kernel)) rfl
theorem wc_X6_existingWheel : ww_cal wy_X6_existingWheel 1 := ⟨wm_594, wm_25, ⟨by decide +kernel, by decide +kernel⟩, by decide +kernel, by decide⟩
theorem wm_591 : Cond.methodLink RX6 207 yX6_existingWheel ∈ ww_GW := ww_gw (List.mem_of_getElem? (i := 591) (by decide +kernel)) rfl
theorem wm_593 : Cond.instanceMethod yX6_existingWheel ∈ ww_GW := ww_gw (List.mem_of_getElem? (i := 593) (by decide +kernel)) rfl
theorem wm_13 : Cond.selects RX6 yX6_existingWheel yX6_existingWheel ∈ ww_GW := ww_gw (List.mem_of_getElem? (i := 13) (by decide +kernel)) rfl
theorem wk_X6_207 : ww_vir RX6 207 wy_X6_existingWheel 1 := ⟨wc_X6_existingWheel, rfl, wm_591, wm_593, wm_13⟩
theorem wm_600 : ww_hd wy_X6_examine ∈ ww_GW := ww_gw (List.mem_of_getElem? (i := 600) (by decide +kernel)) rfl
theorem wc_X6_examine : ww_cal wy_X6_examine 1 := ⟨wm_600, wm_25, ⟨by decide +kernel, by decide +kernel⟩, by decide +kernel, by decide⟩
theorem wm_597 : Cond.methodLink RL 108 yX6_examine ∈ ww_GW := ww_gw (List.mem_of_getElem? (i := 597) (by decide +kernel)) rfl
theorem wm_598 : Cond.instanceMethod yX6_examine ∈ ww_GW := ww_gw (List.mem_of_getElem? (i := 598) (by decide +kernel)) rfl
theorem wm_599 : Cond.selects RX6 yX6_examine yX6_examine ∈ ww_GW := ww_gw (List.mem_of_getElem? (i := 599) (by decide +kernel)) rfl
theorem wk_L_108 : ww_vir RL 108 wy_X6_examine 1 := ⟨wc_X6_examine, rfl, wm_597, wm_598, wm_599⟩
theorem wm_604 : ww_hd wy_X3_mayBeExamined ∈ ww_GW := ww_gw (List.mem_of_getElem? (i := 604) (by decide +kernel)) rfl
theorem wc_X3_mayBeExamined : ww_cal wy_X3_mayBeExamined 0 := ⟨wm_604, wm_37, ⟨by decide +kernel, by decide +kernel⟩, by decide +kernel, by decide⟩
theorem wm_601 : Cond.methodLink RX6 219 yX3_mayBeExamined ∈ ww_GW := ww_gw (List.mem_of_getElem? (i := 601) (by decide +kernel)) rfl
theorem wm_602 : Cond.instanceMethod yX3_mayBeExamined ∈ ww_GW := ww_gw (List.mem_of_getElem? (i := 602) (by decide +kernel)) rfl
theorem wm_603 : Cond.selects RX3 yX3_mayBeExamined yX3_mayBeExamined ∈ ww_GW := ww_gw (List.mem_of_getElem? (i := 603) (by decide +kernel)) rfl
theorem wk_X6_219 : ww_vir RX6 219 wy_X3_mayBeExamined 0 := ⟨wc_X3_mayBeExamined, rfl, wm_601, wm_602, wm_603⟩
theorem wm_609 : ww_hd wy_X6_waive ∈ ww_GW := ww_gw (List.mem_of_getElem? (i := 609) (by decide +kernel)) rfl
theorem wc_X6_waive : ww_cal wy_X6_waive 2 := ⟨wm_609, wm_25, ⟨by decide +kernel, by decide +kernel⟩, by decide +kernel, by decide⟩
theorem wm_606 : Cond.methodLink RL 111 yX6_waive ∈ ww_GW := ww_gw (List.mem_of_getElem? (i := 606) (by decide +kernel)) rfl
theorem wm_607 : Cond.instanceMethod yX6_waive ∈ ww_GW := ww_gw (List.mem_of_getElem? (i := 607) (by decide +kernel)) rfl
theorem wm_608 : Cond.selects RX6 yX6_waive yX6_waive ∈ ww_GW := ww_gw (List.mem_of_getElem? (i := 608) (by decide +kernel)) rfl
theorem wk_L_111 : ww_vir RL 111 wy_X6_waive 2 := ⟨wc_X6_waive, rfl, wm_606, wm_607, wm_608⟩
theorem wm_615 : ww_hd wy_X6_flaw ∈ ww_GW := ww_gw (List.mem_of_getElem? (i := 615) (by decide +kernel)) rfl
theorem wc_X6_flaw : ww_cal wy_X6_flaw 2 := ⟨wm_615, wm_25, ⟨by decide +kernel, by decide +kernel⟩, by decide +kernel, by decide⟩
theorem wm_612 : Cond.methodLink RL 95 yX6_flaw ∈ ww_GW := ww_gw (List.mem_of_getElem? (i := 612) (by decide +kernel)) rfl
theorem wm_613 : Cond.instanceMethod yX6_flaw ∈ ww_GW := ww_gw (List.mem_of_getElem? (i := 613) (by decide +kernel)) rfl
theorem wm_614 : Cond.selects RX6 yX6_flaw yX6_flaw ∈ ww_GW := ww_gw (List.mem_of_getElem? (i := 614) (by decide +kernel)) rfl
theorem wk_L_95 : ww_vir RL 95 wy_X6_flaw 2 := ⟨wc_X6_flaw, rfl, wm_612, wm_613, wm_614⟩
theorem wm_621 : ww_hd wy_X6_look ∈ ww_GW := ww_gw (List.mem_of_getElem? (i := 621) (by decide +kernel)) rfl
theorem wc_X6_look : ww_cal wy_X6_look 2 := ⟨wm_621, wm_25, ⟨by decide +kernel, by decide +kernel⟩, by decide +kernel, by decide⟩
theorem wm_618 : Cond.methodLink RL 98 yX6_look ∈ ww_GW := ww_gw (List.mem_of_getElem? (i := 618) (by decide +kernel)) rfl
theorem wm_619 : Cond.instanceMethod yX6_look ∈ ww_GW := ww_gw (List.mem_of_getElem? (i := 619) (by decide +kernel)) rfl
theorem wm_620 : Cond.selects RX6 yX6_look yX6_look ∈ ww_GW := ww_gw (List.mem_of_getElem? (i := 620) (by decide +kernel)) rfl
theorem wk_L_98 : ww_vir RL 98 wy_X6_look 2 := ⟨wc_X6_look, rfl, wm_618, wm_619, wm_620⟩
theorem wm_626 : ww_hd wy_X6_clear ∈ ww_GW := ww_gw (List.mem_of_getElem? (i := 626) (by decide +kernel)) rfl
theorem wc_X6_clear : ww_cal wy_X6_clear 1 := ⟨wm_626, wm_25, ⟨by decide +kernel, by decide +kernel⟩, by decide +kernel, by decide⟩
theorem wm_623 : Cond.methodLink RL 105 yX6_clear ∈ ww_GW := ww_gw (List.mem_of_getElem? (i := 623) (by decide +kernel)) rfl
theorem wm_624 : Cond.instanceMethod yX6_clear ∈ ww_GW := ww_gw (List.mem_of_getElem? (i := 624) (by decide +kernel)) rfl
theorem wm_625 : Cond.selects RX6 yX6_clear yX6_clear ∈ ww_GW := ww_gw (List.mem_of_getElem? (i := 625) (by decide +kernel)) rfl
theorem wk_L_105 : ww_vir RL 105 wy_X6_clear 1 := ⟨wc_X6_clear, rfl, wm_623, wm_624, wm_625⟩
theorem wm_631 : ww_hd wy_X6_recall ∈ ww_GW := ww_gw (List.mem_of_getElem? (i := 631) (by decide +kernel)) rfl
theorem wc_X6_recall : ww_cal wy_X6_recall 1 := ⟨wm_631, wm_25, ⟨by decide +kernel, by decide +kernel⟩, by decide +kernel, by decide⟩
theorem wm_628 : Cond.methodLink RL 102 yX6_recall ∈ ww_GW := ww_gw (List.mem_of_getElem? (i := 628) (by decide +kernel)) rfl
theorem wm_629 : Cond.instanceMethod yX6_recall ∈ ww_GW := ww_gw (List.mem_of_getElem? (i := 629) (by decide +kernel)) rfl
theorem wm_630 : Cond.selects RX6 yX6_recall yX6_recall ∈ ww_GW := ww_gw (List.mem_of_getElem? (i := 630) (by decide +kernel)) rfl
theorem wk_L_102 : ww_vir RL 102 wy_X6_recall 1 := ⟨wc_X6_recall, rfl, wm_628, wm_629, wm_630⟩
theorem wm_636 : ww_hd wy_X6_release ∈ ww_GW := ww_gw (List.mem_of_getElem? (i := 636) (by decide +kernel)) rfl
theorem wc_X6_release : ww_cal wy_X6_release 1 := ⟨wm_636, wm_25, ⟨by decide +kernel, by decide +kernel⟩, by decide +kernel, by decide⟩
theorem wm_633 : Cond.methodLink RL 56 yX6_release ∈ ww_GW := ww_gw (List.mem_of_getElem? (i := 633) (by decide +kernel)) rfl
theorem wm_634 : Cond.instanceMethod yX6_release ∈ ww_GW := ww_gw (List.mem_of_getElem? (i := 634) (by decide +kernel)) rfl
theorem wm_635 : Cond.selects RX6 yX6_release yX6_release ∈ ww_GW := ww_gw (List.mem_of_getElem? (i := 635) (by decide +kernel)) rfl
theorem wk_L_56 : ww_vir RL 56 wy_X6_release 1 := ⟨wc_X6_release, rfl, wm_633, wm_634, wm_635⟩
theorem wm_640 : ww_hd wy_X6_firstBar ∈ ww_GW := ww_gw (List.mem_of_getElem? (i := 640) (by decide +kernel)) rfl
theorem wc_X6_firstBar : ww_cal wy_X6_firstBar 1 := ⟨wm_640, wm_25, ⟨by decide +kernel, by decide +kernel⟩, by decide +kernel, by decide⟩
theorem wm_637 : Cond.methodLink RX6 258 yX6_firstBar ∈ ww_GW := ww_gw (List.mem_of_getElem? (i := 637) (by decide +kernel)) rfl
theorem wm_639 : Cond.instanceMethod yX6_firstBar ∈ ww_GW := ww_gw (List.mem_of_getElem? (i := 639) (by decide +kernel)) rfl
theorem wm_14 : Cond.selects RX6 yX6_firstBar yX6_firstBar ∈ ww_GW := ww_gw (List.mem_of_getElem? (i := 14) (by decide +kernel)) rfl
theorem wk_X6_258 : ww_vir RX6 258 wy_X6_firstBar 1 := ⟨wc_X6_firstBar, rfl, wm_637, wm_639, wm_14⟩
theorem wm_644 : ww_hd wy_X6_lowestBarring ∈ ww_GW := ww_gw (List.mem_of_getElem? (i := 644) (by decide +kernel)) rfl
theorem wc_X6_lowestBarring : ww_cal wy_X6_lowestBarring 2 := ⟨wm_644, wm_25, ⟨by decide +kernel, by decide +kernel⟩, by decide +kernel, by decide⟩
theorem wm_641 : Cond.methodLink RX6 323 yX6_lowestBarring ∈ ww_GW := ww_gw (List.mem_of_getElem? (i := 641) (by decide +kernel)) rfl
theorem wm_643 : Cond.instanceMethod yX6_lowestBarring ∈ ww_GW := ww_gw (List.mem_of_getElem? (i := 643) (by decide +kernel)) rfl
theorem wm_15 : Cond.selects RX6 yX6_lowestBarring yX6_lowestBarring ∈ ww_GW := ww_gw (List.mem_of_getElem? (i := 15) (by decide +kernel)) rfl
theorem wk_X6_323 : ww_vir RX6 323 wy_X6_lowestBarring 2 := ⟨wc_X6_lowestBarring, rfl, wm_641, wm_643, wm_15⟩
theorem wm_648 : ww_hd wy_X6_isSo ∈ ww_GW := ww_gw (List.mem_of_getElem? (i := 648) (by decide +kernel)) rfl
theorem wc_X6_isSo : ww_cal wy_X6_isSo 2 := ⟨wm_648, wm_25, ⟨by decide +kernel, by decide +kernel⟩, by decide +kernel, by decide⟩
theorem wm_645 : Cond.methodLink RX6 351 yX6_isSo ∈ ww_GW := ww_gw (List.mem_of_getElem? (i := 645) (by decide +kernel)) rfl
theorem wm_647 : Cond.instanceMethod yX6_isSo ∈ ww_GW := ww_gw (List.mem_of_getElem? (i := 647) (by decide +kernel)) rfl
theorem wm_16 : Cond.selects RX6 yX6_isSo yX6_isSo ∈ ww_GW := ww_gw (List.mem_of_getElem? (i := 16) (by decide +kernel)) rfl
theorem wk_X6_351 : ww_vir RX6 351 wy_X6_isSo 2 := ⟨wc_X6_isSo, rfl, wm_645, wm_647, wm_16⟩
theorem wm_652 : ww_hd wy_X6_hasEmptyPlace ∈ ww_GW := ww_gw (List.mem_of_getElem? (i := 652) (by decide +kernel)) rfl
theorem wc_X6_hasEmptyPlace : ww_cal wy_X6_hasEmptyPlace 1 := ⟨wm_652, wm_25, ⟨by decide +kernel, by decide +kernel⟩, by decide +kernel, by decide⟩
theorem wm_649 : Cond.methodLink RX6 355 yX6_hasEmptyPlace ∈ ww_GW := ww_gw (List.mem_of_getElem? (i := 649) (by decide +kernel)) rfl
theorem wm_651 : Cond.instanceMethod yX6_hasEmptyPlace ∈ ww_GW := ww_gw (List.mem_of_getElem? (i := 651) (by decide +kernel)) rfl
theorem wm_17 : Cond.selects RX6 yX6_hasEmptyPlace yX6_hasEmptyPlace ∈ ww_GW := ww_gw (List.mem_of_getElem? (i := 17) (by decide +kernel)) rfl
theorem wk_X6_355 : ww_vir RX6 355 wy_X6_hasEmptyPlace 1 := ⟨wc_X6_hasEmptyPlace, rfl, wm_649, wm_651, wm_17⟩
theorem wm_656 : ww_hd wy_X4_isWorn ∈ ww_GW := ww_gw (List.mem_of_getElem? (i := 656) (by decide +kernel)) rfl
theorem wc_X4_isWorn : ww_cal wy_X4_isWorn 0 := ⟨wm_656, wm_38, ⟨by decide +kernel, by decide +kernel⟩, by decide +kernel, by decide⟩
theorem wm_653 : Cond.methodLink RX6 358 yX4_isWorn ∈ ww_GW := ww_gw (List.mem_of_getElem? (i := 653) (by decide +kernel)) rfl
theorem wm_654 : Cond.instanceMethod yX4_isWorn ∈ ww_GW := ww_gw (List.mem_of_getElem? (i := 654) (by decide +kernel)) rfl
theorem wm_655 : Cond.selects RX4 yX4_isWorn yX4_isWorn ∈ ww_GW := ww_gw (List.mem_of_getElem? (i := 655) (by decide +kernel)) rfl
theorem wk_X6_358 : ww_vir RX6 358 wy_X4_isWorn 0 := ⟨wc_X4_isWorn, rfl, wm_653, wm_654, wm_655⟩
theorem wm_660 : ww_hd wy_X6_isApart ∈ ww_GW := ww_gw (List.mem_of_getElem? (i := 660) (by decide +kernel)) rfl
theorem wc_X6_isApart : ww_cal wy_X6_isApart 1 := ⟨wm_660, wm_25, ⟨by decide +kernel, by decide +kernel⟩, by decide +kernel, by decide⟩
theorem wm_657 : Cond.methodLink RX6 361 yX6_isApart ∈ ww_GW := ww_gw (List.mem_of_getElem? (i := 657) (by decide +kernel)) rfl
theorem wm_659 : Cond.instanceMethod yX6_isApart ∈ ww_GW := ww_gw (List.mem_of_getElem? (i := 659) (by decide +kernel)) rfl
theorem wm_18 : Cond.selects RX6 yX6_isApart yX6_isApart ∈ ww_GW := ww_gw (List.mem_of_getElem? (i := 18) (by decide +kernel)) rfl
theorem wk_X6_361 : ww_vir RX6 361 wy_X6_isApart 1 := ⟨wc_X6_isApart, rfl, wm_657, wm_659, wm_18⟩
theorem wm_664 : ww_hd wy_X6_spreadIn ∈ ww_GW := ww_gw (List.mem_of_getElem? (i := 664) (by decide +kernel)) rfl
theorem wc_X6_spreadIn : ww_cal wy_X6_spreadIn 1 := ⟨wm_664, wm_25, ⟨by decide +kernel, by decide +kernel⟩, by decide +kernel, by decide⟩
theorem wm_661 : Cond.methodLink RX6 367 yX6_spreadIn ∈ ww_GW := ww_gw (List.mem_of_getElem? (i := 661) (by decide +kernel)) rfl
theorem wm_663 : Cond.instanceMethod yX6_spreadIn ∈ ww_GW := ww_gw (List.mem_of_getElem? (i := 663) (by decide +kernel)) rfl
theorem wm_19 : Cond.selects RX6 yX6_spreadIn yX6_spreadIn ∈ ww_GW := ww_gw (List.mem_of_getElem? (i := 19) (by decide +kernel)) rfl
theorem wk_X6_367 : ww_vir RX6 367 wy_X6_spreadIn 1 := ⟨wc_X6_spreadIn, rfl, wm_661, wm_663, wm_19⟩
theorem wm_668 : ww_hd wy_X3_isWithin ∈ ww_GW := ww_gw (List.mem_of_getElem? (i := 668) (by decide +kernel)) rfl
theorem wc_X3_isWithin : ww_cal wy_X3_isWithin 1 := ⟨wm_668, wm_37, ⟨by decide +kernel, by decide +kernel⟩, by decide +kernel, by decide⟩
theorem wm_665 : Cond.methodLink RX6 370 yX3_isWithin ∈ ww_GW := ww_gw (List.mem_of_getElem? (i := 665) (by decide +kernel)) rfl
theorem wm_666 : Cond.instanceMethod yX3_isWithin ∈ ww_GW := ww_gw (List.mem_of_getElem? (i := 666) (by decide +kernel)) rfl
theorem wm_667 : Cond.selects RX3 yX3_isWithin yX3_isWithin ∈ ww_GW := ww_gw (List.mem_of_getElem? (i := 667) (by decide +kernel)) rfl
theorem wk_X6_370 : ww_vir RX6 370 wy_X3_isWithin 1 := ⟨wc_X3_isWithin, rfl, wm_665, wm_666, wm_667⟩
theorem wm_669 : Cond.methodLink RX6 320 yJ9_max_7cf53 ∈ ww_GW := ww_gw (List.mem_of_getElem? (i := 669) (by decide +kernel)) rfl
theorem wk_X6_320 : ww_sta RX6 320 wy_J9_max_7cf53 2 := ⟨wc_J9_max_7cf53, wm_669, wm_375⟩
theorem wm_673 : ww_hd wy_X3_isExaminationDue ∈ ww_GW := ww_gw (List.mem_of_getElem? (i := 673) (by decide +kernel)) rfl
theorem wc_X3_isExaminationDue : ww_cal wy_X3_isExaminationDue 0 := ⟨wm_673, wm_37, ⟨by decide +kernel, by decide +kernel⟩, by decide +kernel, by decide⟩
theorem wm_670 : Cond.methodLink RX6 364 yX3_isExaminationDue ∈ ww_GW := ww_gw (List.mem_of_getElem? (i := 670) (by decide +kernel)) rfl
theorem wm_671 : Cond.instanceMethod yX3_isExaminationDue ∈ ww_GW := ww_gw (List.mem_of_getElem? (i := 671) (by decide +kernel)) rfl
theorem wm_672 : Cond.selects RX3 yX3_isExaminationDue yX3_isExaminationDue ∈ ww_GW := ww_gw (List.mem_of_getElem? (i := 672) (by decide +kernel)) rfl
theorem wk_X6_364 : ww_vir RX6 364 wy_X3_isExaminationDue 0 := ⟨wc_X3_isExaminationDue, rfl, wm_670, wm_671, wm_672⟩
theorem wm_677 : ww_hd wy_X6_comes ∈ ww_GW := ww_gw (List.mem_of_getElem? (i := 677) (by decide +kernel)) rfl
theorem wc_X6_comes : ww_cal wy_X6_comes 2 := ⟨wm_677, wm_25, ⟨by decide +kernel, by decide +kernel⟩, by decide +kernel, by decide⟩
theorem wm_674 : Cond.methodLink RL 119 yX6_comes ∈ ww_GW := ww_gw (List.mem_of_getElem? (i := 674) (by decide +kernel)) rfl
theorem wm_675 : Cond.instanceMethod yX6_comes ∈ ww_GW := ww_gw (List.mem_of_getElem? (i := 675) (by decide +kernel)) rfl
theorem wm_676 : Cond.selects RX6 yX6_comes yX6_comes ∈ ww_GW := ww_gw (List.mem_of_getElem? (i := 676) (by decide +kernel)) rfl
theorem wk_L_119 : ww_vir RL 119 wy_X6_comes 2 := ⟨wc_X6_comes, rfl, wm_674, wm_675, wm_676⟩
theorem wm_682 : ww_hd wy_X5_isTaken ∈ ww_GW := ww_gw (List.mem_of_getElem? (i := 682) (by decide +kernel)) rfl
theorem wc_X5_isTaken : ww_cal wy_X5_isTaken 1 := ⟨wm_682, wm_30, ⟨by decide +kernel, by decide +kernel⟩, by decide +kernel, by decide⟩
theorem wm_679 : Cond.methodLink RX6 266 yX5_isTaken ∈ ww_GW := ww_gw (List.mem_of_getElem? (i := 679) (by decide +kernel)) rfl
theorem wm_680 : Cond.instanceMethod yX5_isTaken ∈ ww_GW := ww_gw (List.mem_of_getElem? (i := 680) (by decide +kernel)) rfl
theorem wm_681 : Cond.selects RX5 yX5_isTaken yX5_isTaken ∈ ww_GW := ww_gw (List.mem_of_getElem? (i := 681) (by decide +kernel)) rfl
theorem wk_X6_266 : ww_vir RX6 266 wy_X5_isTaken 1 := ⟨wc_X5_isTaken, rfl, wm_679, wm_680, wm_681⟩
theorem wm_689 : ww_hd wy_X6_night ∈ ww_GW := ww_gw (List.mem_of_getElem? (i := 689) (by decide +kernel)) rfl
theorem wc_X6_night : ww_cal wy_X6_night 0 := ⟨wm_689, wm_25, ⟨by decide +kernel, by decide +kernel⟩, by decide +kernel, by decide⟩
theorem wm_686 : Cond.methodLink RL 125 yX6_night ∈ ww_GW := ww_gw (List.mem_of_getElem? (i := 686) (by decide +kernel)) rfl
theorem wm_687 : Cond.instanceMethod yX6_night ∈ ww_GW := ww_gw (List.mem_of_getElem? (i := 687) (by decide +kernel)) rfl
theorem wm_688 : Cond.selects RX6 yX6_night yX6_night ∈ ww_GW := ww_gw (List.mem_of_getElem? (i := 688) (by decide +kernel)) rfl
theorem wk_L_125 : ww_vir RL 125 wy_X6_night 0 := ⟨wc_X6_night, rfl, wm_686, wm_687, wm_688⟩
theorem wm_693 : ww_hd wy_Jx4a65c_isEmpty_aae02 ∈ ww_GW := ww_gw (List.mem_of_getElem? (i := 693) (by decide +kernel)) rfl
theorem wc_Jx4a65c_isEmpty_aae02 : ww_cal wy_Jx4a65c_isEmpty_aae02 0 := ⟨wm_693, wm_28, ⟨by decide +kernel, by decide +kernel⟩, by decide +kernel, by decide⟩
theorem wm_690 : Cond.methodLink RX6 277 yJx4a65c_isEmpty_aae02 ∈ ww_GW := ww_gw (List.mem_of_getElem? (i := 690) (by decide +kernel)) rfl
theorem wm_691 : Cond.instanceMethod yJx4a65c_isEmpty_aae02 ∈ ww_GW := ww_gw (List.mem_of_getElem? (i := 691) (by decide +kernel)) rfl
theorem wm_692 : Cond.selects RJx4a65c yJx4a65c_isEmpty_aae02 yJx4a65c_isEmpty_aae02 ∈ ww_GW := ww_gw (List.mem_of_getElem? (i := 692) (by decide +kernel)) rfl
theorem wk_X6_277 : ww_vir RX6 277 wy_Jx4a65c_isEmpty_aae02 0 := ⟨wc_Jx4a65c_isEmpty_aae02, rfl, wm_690, wm_691, wm_692⟩
theorem wm_698 : ww_hd wy_X5_park ∈ ww_GW := ww_gw (List.mem_of_getElem? (i := 698) (by decide +kernel)) rfl
theorem wc_X5_park : ww_cal wy_X5_park 0 := ⟨wm_698, wm_30, ⟨by decide +kernel, by decide +kernel⟩, by decide +kernel, by decide⟩
theorem wm_695 : Cond.methodLink RX6 285 yX5_park ∈ ww_GW := ww_gw (List.mem_of_getElem? (i := 695) (by decide +kernel)) rfl
theorem wm_696 : Cond.instanceMethod yX5_park ∈ ww_GW := ww_gw (List.mem_of_getElem? (i := 696) (by decide +kernel)) rfl
theorem wm_697 : Cond.selects RX5 yX5_park yX5_park ∈ ww_GW := ww_gw (List.mem_of_getElem? (i := 697) (by decide +kernel)) rfl
theorem wk_X6_285 : ww_vir RX6 285 wy_X5_park 0 := ⟨wc_X5_park, rfl, wm_695, wm_696, wm_697⟩
theorem wm_702 : ww_hd wy_X5_makePlan ∈ ww_GW := ww_gw (List.mem_of_getElem? (i := 702) (by decide +kernel)) rfl
theorem wc_X5_makePlan : ww_cal wy_X5_makePlan 0 := ⟨wm_702, wm_30, ⟨by decide +kernel, by decide +kernel⟩, by decide +kernel, by decide⟩
theorem wm_699 : Cond.methodLink RX5 53 yX5_makePlan ∈ ww_GW := ww_gw (List.mem_of_getElem? (i := 699) (by decide +kernel)) rfl
theorem wm_700 : Cond.instanceMethod yX5_makePlan ∈ ww_GW := ww_gw (List.mem_of_getElem? (i := 700) (by decide +kernel)) rfl
theorem wm_701 : Cond.selects RX5 yX5_makePlan yX5_makePlan ∈ ww_GW := ww_gw (List.mem_of_getElem? (i := 701) (by decide +kernel)) rfl
theorem wk_X5_53 : ww_vir RX5 53 wy_X5_makePlan 0 := ⟨wc_X5_makePlan, rfl, wm_699, wm_700, wm_701⟩
theorem wm_706 : ww_hd wy_X5_markBlocked ∈ ww_GW := ww_gw (List.mem_of_getElem? (i := 706) (by decide +kernel)) rfl
theorem wc_X5_markBlocked : ww_cal wy_X5_markBlocked 0 := ⟨wm_706, wm_30, ⟨by decide +kernel, by decide +kernel⟩, by decide +kernel, by decide⟩
theorem wm_703 : Cond.methodLink RX5 39 yX5_markBlocked ∈ ww_GW := ww_gw (List.mem_of_getElem? (i := 703) (by decide +kernel)) rfl
theorem wm_705 : Cond.instanceMethod yX5_markBlocked ∈ ww_GW := ww_gw (List.mem_of_getElem? (i := 705) (by decide +kernel)) rfl
theorem wm_20 : Cond.selects RX5 yX5_markBlocked yX5_markBlocked ∈ ww_GW := ww_gw (List.mem_of_getElem? (i := 20) (by decide +kernel)) rfl
theorem wk_X5_39 : ww_vir RX5 39 wy_X5_markBlocked 0 := ⟨wc_X5_markBlocked, rfl, wm_703, wm_705, wm_20⟩
theorem wm_709 : ww_hd wy_X5_searchPlan ∈ ww_GW := ww_gw (List.mem_of_getElem? (i := 709) (by decide +kernel)) rfl
theorem wc_X5_searchPlan : ww_cal wy_X5_searchPlan 4 := ⟨wm_709, wm_30, ⟨by decide +kernel, by decide +kernel⟩, by decide +kernel, by decide⟩
theorem wm_707 : Cond.methodLink RX5 45 yX5_searchPlan ∈ ww_GW := ww_gw (List.mem_of_getElem? (i := 707) (by decide +kernel)) rfl
theorem wm_708 : Cond.static yX5_searchPlan ∈ ww_GW := ww_gw (List.mem_of_getElem? (i := 708) (by decide +kernel)) rfl
theorem wk_X5_45 : ww_sta RX5 45 wy_X5_searchPlan 4 := ⟨wc_X5_searchPlan, wm_707, wm_708⟩
theorem wm_712 : ww_hd wy_X5_trainsIn ∈ ww_GW := ww_gw (List.mem_of_getElem? (i := 712) (by decide +kernel)) rfl
theorem wc_X5_trainsIn : ww_cal wy_X5_trainsIn 2 := ⟨wm_712, wm_30, ⟨by decide +kernel, by decide +kernel⟩, by decide +kernel, by decide⟩
theorem wm_710 : Cond.methodLink RX5 79 yX5_trainsIn ∈ ww_GW := ww_gw (List.mem_of_getElem? (i := 710) (by decide +kernel)) rfl
theorem wm_711 : Cond.static yX5_trainsIn ∈ ww_GW := ww_gw (List.mem_of_getElem? (i := 711) (by decide +kernel)) rfl
theorem wk_X5_79 : ww_sta RX5 79 wy_X5_trainsIn 2 := ⟨wc_X5_trainsIn, wm_710, wm_711⟩
theorem wm_715 : ww_hd wy_J6_bitCount_0f7a4 ∈ ww_GW := ww_gw (List.mem_of_getElem? (i := 715) (by decide +kernel)) rfl
theorem wm_47 : Cond.initialized RJ6 ∈ ww_GW := ww_gw (List.mem_of_getElem? (i := 47) (by decide +kernel)) rfl
theorem wc_J6_bitCount_0f7a4 : ww_cal wy_J6_bitCount_0f7a4 1 := ⟨wm_715, wm_47, ⟨by decide +kernel, by decide +kernel⟩, by decide +kernel, by decide⟩
theorem wm_713 : Cond.methodLink RX5 82 yJ6_bitCount_0f7a4 ∈ ww_GW := ww_gw (List.mem_of_getElem? (i := 713) (by decide +kernel)) rfl
theorem wm_714 : Cond.static yJ6_bitCount_0f7a4 ∈ ww_GW := ww_gw (List.mem_of_getElem? (i := 714) (by decide +kernel)) rfl
theorem wk_X5_82 : ww_sta RX5 82 wy_J6_bitCount_0f7a4 1 := ⟨wc_J6_bitCount_0f7a4, wm_713, wm_714⟩
theorem wm_721 : ww_hd wy_X5_bitOf ∈ ww_GW := ww_gw (List.mem_of_getElem? (i := 721) (by decide +kernel)) rfl
theorem wc_X5_bitOf : ww_cal wy_X5_bitOf 2 := ⟨wm_721, wm_30, ⟨by decide +kernel, by decide +kernel⟩, by decide +kernel, by decide⟩
theorem wm_719 : Cond.methodLink RX5 88 yX5_bitOf ∈ ww_GW := ww_gw (List.mem_of_getElem? (i := 719) (by decide +kernel)) rfl
theorem wm_720 : Cond.static yX5_bitOf ∈ ww_GW := ww_gw (List.mem_of_getElem? (i := 720) (by decide +kernel)) rfl
theorem wk_X5_88 : ww_sta RX5 88 wy_X5_bitOf 2 := ⟨wc_X5_bitOf, wm_719, wm_720⟩
theorem wm_724 : ww_hd wy_X5_roadIn ∈ ww_GW := ww_gw (List.mem_of_getElem? (i := 724) (by decide +kernel)) rfl
theorem wc_X5_roadIn : ww_cal wy_X5_roadIn 2 := ⟨wm_724, wm_30, ⟨by decide +kernel, by decide +kernel⟩, by decide +kernel, by decide⟩
theorem wm_722 : Cond.methodLink RX5 59 yX5_roadIn ∈ ww_GW := ww_gw (List.mem_of_getElem? (i := 722) (by decide +kernel)) rfl
theorem wm_723 : Cond.static yX5_roadIn ∈ ww_GW := ww_gw (List.mem_of_getElem? (i := 723) (by decide +kernel)) rfl
theorem wk_X5_59 : ww_sta RX5 59 wy_X5_roadIn 2 := ⟨wc_X5_roadIn, wm_722, wm_723⟩
theorem wm_725 : Cond.methodLink RX5 66 yJx4a65c_add_9ea2d ∈ ww_GW := ww_gw (List.mem_of_getElem? (i := 725) (by decide +kernel)) rfl
theorem wk_X5_66 : ww_vir RX5 66 wy_Jx4a65c_add_9ea2d 1 := ⟨wc_Jx4a65c_add_9ea2d, rfl, wm_725, wm_356, wm_357⟩
theorem wm_729 : ww_hd wy_Jx4a65c_clear_da8c8 ∈ ww_GW := ww_gw (List.mem_of_getElem? (i := 729) (by decide +kernel)) rfl
theorem wc_Jx4a65c_clear_da8c8 : ww_cal wy_Jx4a65c_clear_da8c8 0 := ⟨wm_729, wm_28, ⟨by decide +kernel, by decide +kernel⟩, by decide +kernel, by decide⟩
theorem wm_726 : Cond.methodLink RX5 70 yJx4a65c_clear_da8c8 ∈ ww_GW := ww_gw (List.mem_of_getElem? (i := 726) (by decide +kernel)) rfl
theorem wm_727 : Cond.instanceMethod yJx4a65c_clear_da8c8 ∈ ww_GW := ww_gw (List.mem_of_getElem? (i := 727) (by decide +kernel)) rfl
theorem wm_728 : Cond.selects RJx4a65c yJx4a65c_clear_da8c8 yJx4a65c_clear_da8c8 ∈ ww_GW := ww_gw (List.mem_of_getElem? (i := 728) (by decide +kernel)) rfl
theorem wk_X5_70 : ww_vir RX5 70 wy_Jx4a65c_clear_da8c8 0 := ⟨wc_Jx4a65c_clear_da8c8, rfl, wm_726, wm_727, wm_728⟩
theorem wm_733 : ww_hd wy_X6_out ∈ ww_GW := ww_gw (List.mem_of_getElem? (i := 733) (by decide +kernel)) rfl
theorem wc_X6_out : ww_cal wy_X6_out 0 := ⟨wm_733, wm_25, ⟨by decide +kernel, by decide +kernel⟩, by decide +kernel, by decide⟩
theorem wm_730 : Cond.methodLink RL 115 yX6_out ∈ ww_GW := ww_gw (List.mem_of_getElem? (i := 730) (by decide +kernel)) rfl
theorem wm_731 : Cond.instanceMethod yX6_out ∈ ww_GW := ww_gw (List.mem_of_getElem? (i := 731) (by decide +kernel)) rfl
theorem wm_732 : Cond.selects RX6 yX6_out yX6_out ∈ ww_GW := ww_gw (List.mem_of_getElem? (i := 732) (by decide +kernel)) rfl
theorem wk_L_115 : ww_vir RL 115 wy_X6_out 0 := ⟨wc_X6_out, rfl, wm_730, wm_731, wm_732⟩
theorem wm_738 : ww_hd wy_X5_sendFirst ∈ ww_GW := ww_gw (List.mem_of_getElem? (i := 738) (by decide +kernel)) rfl
theorem wc_X5_sendFirst : ww_cal wy_X5_sendFirst 0 := ⟨wm_738, wm_30, ⟨by decide +kernel, by decide +kernel⟩, by decide +kernel, by decide⟩
theorem wm_735 : Cond.methodLink RX6 290 yX5_sendFirst ∈ ww_GW := ww_gw (List.mem_of_getElem? (i := 735) (by decide +kernel)) rfl
theorem wm_736 : Cond.instanceMethod yX5_sendFirst ∈ ww_GW := ww_gw (List.mem_of_getElem? (i := 736) (by decide +kernel)) rfl
theorem wm_737 : Cond.selects RX5 yX5_sendFirst yX5_sendFirst ∈ ww_GW := ww_gw (List.mem_of_getElem? (i := 737) (by decide +kernel)) rfl
theorem wk_X6_290 : ww_vir RX6 290 wy_X5_sendFirst 0 := ⟨wc_X5_sendFirst, rfl, wm_735, wm_736, wm_737⟩
theorem wm_742 : ww_hd wy_Jx4a65c_remove_915e3 ∈ ww_GW := ww_gw (List.mem_of_getElem? (i := 742) (by decide +kernel)) rfl
theorem wc_Jx4a65c_remove_915e3 : ww_cal wy_Jx4a65c_remove_915e3 1 := ⟨wm_742, wm_28, ⟨by decide +kernel, by decide +kernel⟩, by decide +kernel, by decide⟩
theorem wm_739 : Cond.methodLink RX5 73 yJx4a65c_remove_915e3 ∈ ww_GW := ww_gw (List.mem_of_getElem? (i := 739) (by decide +kernel)) rfl
theorem wm_740 : Cond.instanceMethod yJx4a65c_remove_915e3 ∈ ww_GW := ww_gw (List.mem_of_getElem? (i := 740) (by decide +kernel)) rfl
theorem wm_741 : Cond.selects RJx4a65c yJx4a65c_remove_915e3 yJx4a65c_remove_915e3 ∈ ww_GW := ww_gw (List.mem_of_getElem? (i := 741) (by decide +kernel)) rfl
theorem wk_X5_73 : ww_vir RX5 73 wy_Jx4a65c_remove_915e3 1 := ⟨wc_Jx4a65c_remove_915e3, rfl, wm_739, wm_740, wm_741⟩
theorem wm_746 : ww_hd wy_Jx4a65c_fastRemove_b59b0 ∈ ww_GW := ww_gw (List.mem_of_getElem? (i := 746) (by decide +kernel)) rfl
theorem wc_Jx4a65c_fastRemove_b59b0 : ww_cal wy_Jx4a65c_fastRemove_b59b0 2 := ⟨wm_746, wm_28, ⟨by decide +kernel, by decide +kernel⟩, by decide +kernel, by decide⟩
theorem wm_743 : Cond.methodLink RJx4a65c 144 yJx4a65c_fastRemove_b59b0 ∈ ww_GW := ww_gw (List.mem_of_getElem? (i := 743) (by decide +kernel)) rfl
theorem wm_745 : Cond.instanceMethod yJx4a65c_fastRemove_b59b0 ∈ ww_GW := ww_gw (List.mem_of_getElem? (i := 745) (by decide +kernel)) rfl
theorem wm_21 : Cond.selects RJx4a65c yJx4a65c_fastRemove_b59b0 yJx4a65c_fastRemove_b59b0 ∈ ww_GW := ww_gw (List.mem_of_getElem? (i := 21) (by decide +kernel)) rfl
theorem wk_Jx4a65c_144 : ww_vir RJx4a65c 144 wy_Jx4a65c_fastRemove_b59b0 2 := ⟨wc_Jx4a65c_fastRemove_b59b0, rfl, wm_743, wm_745, wm_21⟩
theorem wm_751 : ww_hd wy_X6_host ∈ ww_GW := ww_gw (List.mem_of_getElem? (i := 751) (by decide +kernel)) rfl
theorem wc_X6_host : ww_cal wy_X6_host 1 := ⟨wm_751, wm_25, ⟨by decide +kernel, by decide +kernel⟩, by decide +kernel, by decide⟩
theorem wm_748 : Cond.methodLink RL 18 yX6_host ∈ ww_GW := ww_gw (List.mem_of_getElem? (i := 748) (by decide +kernel)) rfl
theorem wm_749 : Cond.instanceMethod yX6_host ∈ ww_GW := ww_gw (List.mem_of_getElem? (i := 749) (by decide +kernel)) rfl
theorem wm_750 : Cond.selects RX6 yX6_host yX6_host ∈ ww_GW := ww_gw (List.mem_of_getElem? (i := 750) (by decide +kernel)) rfl
theorem wk_L_18 : ww_vir RL 18 wy_X6_host 1 := ⟨wc_X6_host, rfl, wm_748, wm_749, wm_750⟩
theorem wm_755 : ww_hd wy_X3_whereabouts ∈ ww_GW := ww_gw (List.mem_of_getElem? (i := 755) (by decide +kernel)) rfl
theorem wc_X3_whereabouts : ww_cal wy_X3_whereabouts 0 := ⟨wm_755, wm_37, ⟨by decide +kernel, by decide +kernel⟩, by decide +kernel, by decide⟩
theorem wm_752 : Cond.methodLink RX6 293 yX3_whereabouts ∈ ww_GW := ww_gw (List.mem_of_getElem? (i := 752) (by decide +kernel)) rfl
theorem wm_753 : Cond.instanceMethod yX3_whereabouts ∈ ww_GW := ww_gw (List.mem_of_getElem? (i := 753) (by decide +kernel)) rfl
theorem wm_754 : Cond.selects RX3 yX3_whereabouts yX3_whereabouts ∈ ww_GW := ww_gw (List.mem_of_getElem? (i := 754) (by decide +kernel)) rfl
theorem wk_X6_293 : ww_vir RX6 293 wy_X3_whereabouts 0 := ⟨wc_X3_whereabouts, rfl, wm_752, wm_753, wm_754⟩
theorem wm_759 : ww_hd wy_X6_head ∈ ww_GW := ww_gw (List.mem_of_getElem? (i := 759) (by decide +kernel)) rfl
theorem wc_X6_head : ww_cal wy_X6_head 1 := ⟨wm_759, wm_25, ⟨by decide +kernel, by decide +kernel⟩, by decide +kernel, by decide⟩
theorem wm_756 : Cond.methodLink RL 46 yX6_head ∈ ww_GW := ww_gw (List.mem_of_getElem? (i := 756) (by decide +kernel)) rfl
theorem wm_757 : Cond.instanceMethod yX6_head ∈ ww_GW := ww_gw (List.mem_of_getElem? (i := 757) (by decide +kernel)) rfl
theorem wm_758 : Cond.selects RX6 yX6_head yX6_head ∈ ww_GW := ww_gw (List.mem_of_getElem? (i := 758) (by decide +kernel)) rfl
theorem wk_L_46 : ww_vir RL 46 wy_X6_head 1 := ⟨wc_X6_head, rfl, wm_756, wm_757, wm_758⟩
theorem wm_763 : ww_hd wy_X6_ofPart ∈ ww_GW := ww_gw (List.mem_of_getElem? (i := 763) (by decide +kernel)) rfl
theorem wc_X6_ofPart : ww_cal wy_X6_ofPart 2 := ⟨wm_763, wm_25, ⟨by decide +kernel, by decide +kernel⟩, by decide +kernel, by decide⟩
theorem wm_760 : Cond.methodLink RL 22 yX6_ofPart ∈ ww_GW := ww_gw (List.mem_of_getElem? (i := 760) (by decide +kernel)) rfl
theorem wm_761 : Cond.instanceMethod yX6_ofPart ∈ ww_GW := ww_gw (List.mem_of_getElem? (i := 761) (by decide +kernel)) rfl
theorem wm_762 : Cond.selects RX6 yX6_ofPart yX6_ofPart ∈ ww_GW := ww_gw (List.mem_of_getElem? (i := 762) (by decide +kernel)) rfl
theorem wk_L_22 : ww_vir RL 22 wy_X6_ofPart 2 := ⟨wc_X6_ofPart, rfl, wm_760, wm_761, wm_762⟩
theorem wm_767 : ww_hd wy_X2_movesOf ∈ ww_GW := ww_gw (List.mem_of_getElem? (i := 767) (by decide +kernel)) rfl
theorem wc_X2_movesOf : ww_cal wy_X2_movesOf 1 := ⟨wm_767, wm_29, ⟨by decide +kernel, by decide +kernel⟩, by decide +kernel, by decide⟩
theorem wm_764 : Cond.methodLink RX6 296 yX2_movesOf ∈ ww_GW := ww_gw (List.mem_of_getElem? (i := 764) (by decide +kernel)) rfl
theorem wm_765 : Cond.instanceMethod yX2_movesOf ∈ ww_GW := ww_gw (List.mem_of_getElem? (i := 765) (by decide +kernel)) rfl
theorem wm_766 : Cond.selects RX2 yX2_movesOf yX2_movesOf ∈ ww_GW := ww_gw (List.mem_of_getElem? (i := 766) (by decide +kernel)) rfl
theorem wk_X6_296 : ww_vir RX6 296 wy_X2_movesOf 1 := ⟨wc_X2_movesOf, rfl, wm_764, wm_765, wm_766⟩
theorem wm_768 : Cond.methodLink RX2 38 yJx4a65c_get_915e3 ∈ ww_GW := ww_gw (List.mem_of_getElem? (i := 768) (by decide +kernel)) rfl
theorem wk_X2_38 : ww_vir RX2 38 wy_Jx4a65c_get_915e3 1 := ⟨wc_Jx4a65c_get_915e3, rfl, wm_768, wm_444, wm_445⟩
theorem wm_771 : ww_hd wy_X2_isMoveOf ∈ ww_GW := ww_gw (List.mem_of_getElem? (i := 771) (by decide +kernel)) rfl
theorem wc_X2_isMoveOf : ww_cal wy_X2_isMoveOf 2 := ⟨wm_771, wm_29, ⟨by decide +kernel, by decide +kernel⟩, by decide +kernel, by decide⟩
theorem wm_769 : Cond.methodLink RX2 42 yX2_isMoveOf ∈ ww_GW := ww_gw (List.mem_of_getElem? (i := 769) (by decide +kernel)) rfl
theorem wm_770 : Cond.static yX2_isMoveOf ∈ ww_GW := ww_gw (List.mem_of_getElem? (i := 770) (by decide +kernel)) rfl
theorem wk_X2_42 : ww_sta RX2 42 wy_X2_isMoveOf 2 := ⟨wc_X2_isMoveOf, wm_769, wm_770⟩
theorem wm_776 : ww_hd wy_X6_trace ∈ ww_GW := ww_gw (List.mem_of_getElem? (i := 776) (by decide +kernel)) rfl
theorem wc_X6_trace : ww_cal wy_X6_trace 2 := ⟨wm_776, wm_25, ⟨by decide +kernel, by decide +kernel⟩, by decide +kernel, by decide⟩
theorem wm_773 : Cond.methodLink RL 128 yX6_trace ∈ ww_GW := ww_gw (List.mem_of_getElem? (i := 773) (by decide +kernel)) rfl
theorem wm_774 : Cond.instanceMethod yX6_trace ∈ ww_GW := ww_gw (List.mem_of_getElem? (i := 774) (by decide +kernel)) rfl
theorem wm_775 : Cond.selects RX6 yX6_trace yX6_trace ∈ ww_GW := ww_gw (List.mem_of_getElem? (i := 775) (by decide +kernel)) rfl
theorem wk_L_128 : ww_vir RL 128 wy_X6_trace 2 := ⟨wc_X6_trace, rfl, wm_773, wm_774, wm_775⟩
theorem wm_780 : ww_hd wy_X2_moveOf ∈ ww_GW := ww_gw (List.mem_of_getElem? (i := 780) (by decide +kernel)) rfl
theorem wc_X2_moveOf : ww_cal wy_X2_moveOf 2 := ⟨wm_780, wm_29, ⟨by decide +kernel, by decide +kernel⟩, by decide +kernel, by decide⟩
theorem wm_777 : Cond.methodLink RX6 301 yX2_moveOf ∈ ww_GW := ww_gw (List.mem_of_getElem? (i := 777) (by decide +kernel)) rfl
theorem wm_778 : Cond.instanceMethod yX2_moveOf ∈ ww_GW := ww_gw (List.mem_of_getElem? (i := 778) (by decide +kernel)) rfl
theorem wm_779 : Cond.selects RX2 yX2_moveOf yX2_moveOf ∈ ww_GW := ww_gw (List.mem_of_getElem? (i := 779) (by decide +kernel)) rfl
theorem wk_X6_301 : ww_vir RX6 301 wy_X2_moveOf 2 := ⟨wc_X2_moveOf, rfl, wm_777, wm_778, wm_779⟩
theorem wm_785 : ww_hd wy_X6_lifeAnew ∈ ww_GW := ww_gw (List.mem_of_getElem? (i := 785) (by decide +kernel)) rfl
theorem wc_X6_lifeAnew : ww_cal wy_X6_lifeAnew 1 := ⟨wm_785, wm_25, ⟨by decide +kernel, by decide +kernel⟩, by decide +kernel, by decide⟩
theorem wm_782 : Cond.methodLink RL 131 yX6_lifeAnew ∈ ww_GW := ww_gw (List.mem_of_getElem? (i := 782) (by decide +kernel)) rfl
theorem wm_783 : Cond.instanceMethod yX6_lifeAnew ∈ ww_GW := ww_gw (List.mem_of_getElem? (i := 783) (by decide +kernel)) rfl
theorem wm_784 : Cond.selects RX6 yX6_lifeAnew yX6_lifeAnew ∈ ww_GW := ww_gw (List.mem_of_getElem? (i := 784) (by decide +kernel)) rfl
theorem wk_L_131 : ww_vir RL 131 wy_X6_lifeAnew 1 := ⟨wc_X6_lifeAnew, rfl, wm_782, wm_783, wm_784⟩
theorem wm_789 : ww_hd wy_X2_lifeOf ∈ ww_GW := ww_gw (List.mem_of_getElem? (i := 789) (by decide +kernel)) rfl
theorem wc_X2_lifeOf : ww_cal wy_X2_lifeOf 1 := ⟨wm_789, wm_29, ⟨by decide +kernel, by decide +kernel⟩, by decide +kernel, by decide⟩
theorem wm_786 : Cond.methodLink RX6 315 yX2_lifeOf ∈ ww_GW := ww_gw (List.mem_of_getElem? (i := 786) (by decide +kernel)) rfl
theorem wm_787 : Cond.instanceMethod yX2_lifeOf ∈ ww_GW := ww_gw (List.mem_of_getElem? (i := 787) (by decide +kernel)) rfl
theorem wm_788 : Cond.selects RX2 yX2_lifeOf yX2_lifeOf ∈ ww_GW := ww_gw (List.mem_of_getElem? (i := 788) (by decide +kernel)) rfl
theorem wk_X6_315 : ww_vir RX6 315 wy_X2_lifeOf 1 := ⟨wc_X2_lifeOf, rfl, wm_786, wm_787, wm_788⟩
theorem wm_793 : ww_hd wy_X2_topThen ∈ ww_GW := ww_gw (List.mem_of_getElem? (i := 793) (by decide +kernel)) rfl
theorem wc_X2_topThen : ww_cal wy_X2_topThen 1 := ⟨wm_793, wm_29, ⟨by decide +kernel, by decide +kernel⟩, by decide +kernel, by decide⟩
theorem wm_790 : Cond.methodLink RX2 53 yX2_topThen ∈ ww_GW := ww_gw (List.mem_of_getElem? (i := 790) (by decide +kernel)) rfl
theorem wm_792 : Cond.instanceMethod yX2_topThen ∈ ww_GW := ww_gw (List.mem_of_getElem? (i := 792) (by decide +kernel)) rfl
theorem wm_22 : Cond.selects RX2 yX2_topThen yX2_topThen ∈ ww_GW := ww_gw (List.mem_of_getElem? (i := 22) (by decide +kernel)) rfl
theorem wk_X2_53 : ww_vir RX2 53 wy_X2_topThen 1 := ⟨wc_X2_topThen, rfl, wm_790, wm_792, wm_22⟩
theorem wm_797 : ww_hd wy_X2_isPart ∈ ww_GW := ww_gw (List.mem_of_getElem? (i := 797) (by decide +kernel)) rfl
theorem wc_X2_isPart : ww_cal wy_X2_isPart 1 := ⟨wm_797, wm_29, ⟨by decide +kernel, by decide +kernel⟩, by decide +kernel, by decide⟩
theorem wm_794 : Cond.methodLink RX2 57 yX2_isPart ∈ ww_GW := ww_gw (List.mem_of_getElem? (i := 794) (by decide +kernel)) rfl
theorem wm_796 : Cond.instanceMethod yX2_isPart ∈ ww_GW := ww_gw (List.mem_of_getElem? (i := 796) (by decide +kernel)) rfl
theorem wm_23 : Cond.selects RX2 yX2_isPart yX2_isPart ∈ ww_GW := ww_gw (List.mem_of_getElem? (i := 23) (by decide +kernel)) rfl
theorem wk_X2_57 : ww_vir RX2 57 wy_X2_isPart 1 := ⟨wc_X2_isPart, rfl, wm_794, wm_796, wm_23⟩
theorem wm_801 : ww_hd wy_X6_wheel ∈ ww_GW := ww_gw (List.mem_of_getElem? (i := 801) (by decide +kernel)) rfl
theorem wc_X6_wheel : ww_cal wy_X6_wheel 2 := ⟨wm_801, wm_25, ⟨by decide +kernel, by decide +kernel⟩, by decide +kernel, by decide⟩
theorem wm_798 : Cond.methodLink RL 89 yX6_wheel ∈ ww_GW := ww_gw (List.mem_of_getElem? (i := 798) (by decide +kernel)) rfl
theorem wm_799 : Cond.instanceMethod yX6_wheel ∈ ww_GW := ww_gw (List.mem_of_getElem? (i := 799) (by decide +kernel)) rfl
theorem wm_800 : Cond.selects RX6 yX6_wheel yX6_wheel ∈ ww_GW := ww_gw (List.mem_of_getElem? (i := 800) (by decide +kernel)) rfl
theorem wk_L_89 : ww_vir RL 89 wy_X6_wheel 2 := ⟨wc_X6_wheel, rfl, wm_798, wm_799, wm_800⟩
theorem wm_806 : ww_hd wy_X6_foretell ∈ ww_GW := ww_gw (List.mem_of_getElem? (i := 806) (by decide +kernel)) rfl
theorem wc_X6_foretell : ww_cal wy_X6_foretell 3 := ⟨wm_806, wm_25, ⟨by decide +kernel, by decide +kernel⟩, by decide +kernel, by decide⟩
theorem wm_803 : Cond.methodLink RL 92 yX6_foretell ∈ ww_GW := ww_gw (List.mem_of_getElem? (i := 803) (by decide +kernel)) rfl
theorem wm_804 : Cond.instanceMethod yX6_foretell ∈ ww_GW := ww_gw (List.mem_of_getElem? (i := 804) (by decide +kernel)) rfl
theorem wm_805 : Cond.selects RX6 yX6_foretell yX6_foretell ∈ ww_GW := ww_gw (List.mem_of_getElem? (i := 805) (by decide +kernel)) rfl
theorem wk_L_92 : ww_vir RL 92 wy_X6_foretell 3 := ⟨wc_X6_foretell, rfl, wm_803, wm_804, wm_805⟩
theorem wm_810 : ww_hd wy_X6_bars ∈ ww_GW := ww_gw (List.mem_of_getElem? (i := 810) (by decide +kernel)) rfl
theorem wc_X6_bars : ww_cal wy_X6_bars 1 := ⟨wm_810, wm_25, ⟨by decide +kernel, by decide +kernel⟩, by decide +kernel, by decide⟩
theorem wm_807 : Cond.methodLink RL 53 yX6_bars ∈ ww_GW := ww_gw (List.mem_of_getElem? (i := 807) (by decide +kernel)) rfl
theorem wm_808 : Cond.instanceMethod yX6_bars ∈ ww_GW := ww_gw (List.mem_of_getElem? (i := 808) (by decide +kernel)) rfl
theorem wm_809 : Cond.selects RX6 yX6_bars yX6_bars ∈ ww_GW := ww_gw (List.mem_of_getElem? (i := 809) (by decide +kernel)) rfl
theorem wk_L_53 : ww_vir RL 53 wy_X6_bars 1 := ⟨wc_X6_bars, rfl, wm_807, wm_808, wm_809⟩
theorem wm_814 : ww_hd wy_X6_barredBy ∈ ww_GW := ww_gw (List.mem_of_getElem? (i := 814) (by decide +kernel)) rfl
theorem wc_X6_barredBy : ww_cal wy_X6_barredBy 1 := ⟨wm_814, wm_25, ⟨by decide +kernel, by decide +kernel⟩, by decide +kernel, by decide⟩
theorem wm_811 : Cond.methodLink RL 63 yX6_barredBy ∈ ww_GW := ww_gw (List.mem_of_getElem? (i := 811) (by decide +kernel)) rfl
theorem wm_812 : Cond.instanceMethod yX6_barredBy ∈ ww_GW := ww_gw (List.mem_of_getElem? (i := 812) (by decide +kernel)) rfl
theorem wm_813 : Cond.selects RX6 yX6_barredBy yX6_barredBy ∈ ww_GW := ww_gw (List.mem_of_getElem? (i := 813) (by decide +kernel)) rfl
theorem wk_L_63 : ww_vir RL 63 wy_X6_barredBy 1 := ⟨wc_X6_barredBy, rfl, wm_811, wm_812, wm_813⟩
theorem wm_818 : ww_hd wy_X6_isReleased ∈ ww_GW := ww_gw (List.mem_of_getElem? (i := 818) (by decide +kernel)) rfl
theorem wc_X6_isReleased : ww_cal wy_X6_isReleased 1 := ⟨wm_818, wm_25, ⟨by decide +kernel, by decide +kernel⟩, by decide +kernel, by decide⟩
theorem wm_815 : Cond.methodLink RL 59 yX6_isReleased ∈ ww_GW := ww_gw (List.mem_of_getElem? (i := 815) (by decide +kernel)) rfl
theorem wm_816 : Cond.instanceMethod yX6_isReleased ∈ ww_GW := ww_gw (List.mem_of_getElem? (i := 816) (by decide +kernel)) rfl
theorem wm_817 : Cond.selects RX6 yX6_isReleased yX6_isReleased ∈ ww_GW := ww_gw (List.mem_of_getElem? (i := 817) (by decide +kernel)) rfl
theorem wk_L_59 : ww_vir RL 59 wy_X6_isReleased 1 := ⟨wc_X6_isReleased, rfl, wm_815, wm_816, wm_817⟩
theorem wm_822 : ww_hd wy_X6_plan ∈ ww_GW := ww_gw (List.mem_of_getElem? (i := 822) (by decide +kernel)) rfl
theorem wc_X6_plan : ww_cal wy_X6_plan 0 := ⟨wm_822, wm_25, ⟨by decide +kernel, by decide +kernel⟩, by decide +kernel, by decide⟩
theorem wm_819 : Cond.methodLink RL 122 yX6_plan ∈ ww_GW := ww_gw (List.mem_of_getElem? (i := 819) (by decide +kernel)) rfl
theorem wm_820 : Cond.instanceMethod yX6_plan ∈ ww_GW := ww_gw (List.mem_of_getElem? (i := 820) (by decide +kernel)) rfl
theorem wm_821 : Cond.selects RX6 yX6_plan yX6_plan ∈ ww_GW := ww_gw (List.mem_of_getElem? (i := 821) (by decide +kernel)) rfl
theorem wk_L_122 : ww_vir RL 122 wy_X6_plan 0 := ⟨wc_X6_plan, rfl, wm_819, wm_820, wm_821⟩
theorem wm_823 : Cond.methodLink RX6 326 yX5_makePlan ∈ ww_GW := ww_gw (List.mem_of_getElem? (i := 823) (by decide +kernel)) rfl
theorem wk_X6_326 : ww_vir RX6 326 wy_X5_makePlan 0 := ⟨wc_X5_makePlan, rfl, wm_823, wm_700, wm_701⟩
theorem wm_827 : ww_hd wy_X6_planAnew ∈ ww_GW := ww_gw (List.mem_of_getElem? (i := 827) (by decide +kernel)) rfl
theorem wc_X6_planAnew : ww_cal wy_X6_planAnew 0 := ⟨wm_827, wm_25, ⟨by decide +kernel, by decide +kernel⟩, by decide +kernel, by decide⟩
theorem wm_824 : Cond.methodLink RL 134 yX6_planAnew ∈ ww_GW := ww_gw (List.mem_of_getElem? (i := 824) (by decide +kernel)) rfl
theorem wm_825 : Cond.instanceMethod yX6_planAnew ∈ ww_GW := ww_gw (List.mem_of_getElem? (i := 825) (by decide +kernel)) rfl
theorem wm_826 : Cond.selects RX6 yX6_planAnew yX6_planAnew ∈ ww_GW := ww_gw (List.mem_of_getElem? (i := 826) (by decide +kernel)) rfl
theorem wk_L_134 : ww_vir RL 134 wy_X6_planAnew 0 := ⟨wc_X6_planAnew, rfl, wm_824, wm_825, wm_826⟩
theorem wm_831 : ww_hd wy_X5_makePlanAnew ∈ ww_GW := ww_gw (List.mem_of_getElem? (i := 831) (by decide +kernel)) rfl
theorem wc_X5_makePlanAnew : ww_cal wy_X5_makePlanAnew 0 := ⟨wm_831, wm_30, ⟨by decide +kernel, by decide +kernel⟩, by decide +kernel, by decide⟩
theorem wm_828 : Cond.methodLink RX6 329 yX5_makePlanAnew ∈ ww_GW := ww_gw (List.mem_of_getElem? (i := 828) (by decide +kernel)) rfl
theorem wm_829 : Cond.instanceMethod yX5_makePlanAnew ∈ ww_GW := ww_gw (List.mem_of_getElem? (i := 829) (by decide +kernel)) rfl
theorem wm_830 : Cond.selects RX5 yX5_makePlanAnew yX5_makePlanAnew ∈ ww_GW := ww_gw (List.mem_of_getElem? (i := 830) (by decide +kernel)) rfl
theorem wk_X6_329 : ww_vir RX6 329 wy_X5_makePlanAnew 0 := ⟨wc_X5_makePlanAnew, rfl, wm_828, wm_829, wm_830⟩
theorem wm_834 : ww_hd wy_X5_fewestMoves ∈ ww_GW := ww_gw (List.mem_of_getElem? (i := 834) (by decide +kernel)) rfl
theorem wc_X5_fewestMoves : ww_cal wy_X5_fewestMoves 3 := ⟨wm_834, wm_30, ⟨by decide +kernel, by decide +kernel⟩, by decide +kernel, by decide⟩
theorem wm_832 : Cond.methodLink RX5 49 yX5_fewestMoves ∈ ww_GW := ww_gw (List.mem_of_getElem? (i := 832) (by decide +kernel)) rfl
theorem wm_833 : Cond.static yX5_fewestMoves ∈ ww_GW := ww_gw (List.mem_of_getElem? (i := 833) (by decide +kernel)) rfl
theorem wk_X5_49 : ww_sta RX5 49 wy_X5_fewestMoves 3 := ⟨wc_X5_fewestMoves, wm_832, wm_833⟩
theorem wm_835 : Cond.methodLink RX5 91 yJ9_min_7cf53 ∈ ww_GW := ww_gw (List.mem_of_getElem? (i := 835) (by decide +kernel)) rfl
theorem wk_X5_91 : ww_sta RX5 91 wy_J9_min_7cf53 2 := ⟨wc_J9_min_7cf53, wm_835, wm_406⟩
theorem wm_839 : ww_hd wy_X6_road ∈ ww_GW := ww_gw (List.mem_of_getElem? (i := 839) (by decide +kernel)) rfl
theorem wc_X6_road : ww_cal wy_X6_road 2 := ⟨wm_839, wm_25, ⟨by decide +kernel, by decide +kernel⟩, by decide +kernel, by decide⟩
theorem wm_836 : Cond.methodLink RL 25 yX6_road ∈ ww_GW := ww_gw (List.mem_of_getElem? (i := 836) (by decide +kernel)) rfl
theorem wm_837 : Cond.instanceMethod yX6_road ∈ ww_GW := ww_gw (List.mem_of_getElem? (i := 837) (by decide +kernel)) rfl
theorem wm_838 : Cond.selects RX6 yX6_road yX6_road ∈ ww_GW := ww_gw (List.mem_of_getElem? (i := 838) (by decide +kernel)) rfl
theorem wk_L_25 : ww_vir RL 25 wy_X6_road 2 := ⟨wc_X6_road, rfl, wm_836, wm_837, wm_838⟩
theorem wm_844 : ww_hd wy_X5_trainOn ∈ ww_GW := ww_gw (List.mem_of_getElem? (i := 844) (by decide +kernel)) rfl
theorem wc_X5_trainOn : ww_cal wy_X5_trainOn 2 := ⟨wm_844, wm_30, ⟨by decide +kernel, by decide +kernel⟩, by decide +kernel, by decide⟩
theorem wm_841 : Cond.methodLink RX6 334 yX5_trainOn ∈ ww_GW := ww_gw (List.mem_of_getElem? (i := 841) (by decide +kernel)) rfl
theorem wm_842 : Cond.instanceMethod yX5_trainOn ∈ ww_GW := ww_gw (List.mem_of_getElem? (i := 842) (by decide +kernel)) rfl
theorem wm_843 : Cond.selects RX5 yX5_trainOn yX5_trainOn ∈ ww_GW := ww_gw (List.mem_of_getElem? (i := 843) (by decide +kernel)) rfl
theorem wk_X6_334 : ww_vir RX6 334 wy_X5_trainOn 2 := ⟨wc_X5_trainOn, rfl, wm_841, wm_842, wm_843⟩
theorem wm_847 : ww_hd wy_L_cell ∈ ww_GW := ww_gw (List.mem_of_getElem? (i := 847) (by decide +kernel)) rfl
theorem wm_24 : Cond.initialized RL ∈ ww_GW := ww_gw (List.mem_of_getElem? (i := 24) (by decide +kernel)) rfl
theorem wc_L_cell : ww_cal wy_L_cell 2 := ⟨wm_847, wm_24, ⟨by decide +kernel, by decide +kernel⟩, by decide +kernel, by decide⟩
theorem wm_845 : Cond.methodLink RL 39 yL_cell ∈ ww_GW := ww_gw (List.mem_of_getElem? (i := 845) (by decide +kernel)) rfl
theorem wm_846 : Cond.static yL_cell ∈ ww_GW := ww_gw (List.mem_of_getElem? (i := 846) (by decide +kernel)) rfl
theorem wk_L_39 : ww_sta RL 39 wy_L_cell 2 := ⟨wc_L_cell, wm_845, wm_846⟩
theorem wm_850 : ww_hd wy_L_low ∈ ww_GW := ww_gw (List.mem_of_getElem? (i := 850) (by decide +kernel)) rfl
theorem wc_L_low : ww_cal wy_L_low 2 := ⟨wm_850, wm_24, ⟨by decide +kernel, by decide +kernel⟩, by decide +kernel, by decide⟩
theorem wm_848 : Cond.methodLink RL 43 yL_low ∈ ww_GW := ww_gw (List.mem_of_getElem? (i := 848) (by decide +kernel)) rfl
theorem wm_849 : Cond.static yL_low ∈ ww_GW := ww_gw (List.mem_of_getElem? (i := 849) (by decide +kernel)) rfl
theorem wk_L_43 : ww_sta RL 43 wy_L_low 2 := ⟨wc_L_low, wm_848, wm_849⟩
theorem wm_854 : ww_hd wy_L_build ∈ ww_GW := ww_gw (List.mem_of_getElem? (i := 854) (by decide +kernel)) rfl
theorem wc_L_build : ww_cal wy_L_build 1 := ⟨wm_854, wm_24, ⟨by decide +kernel, by decide +kernel⟩, by decide +kernel, by decide⟩
theorem wm_852 : Cond.methodLink RL 29 yL_build ∈ ww_GW := ww_gw (List.mem_of_getElem? (i := 852) (by decide +kernel)) rfl
theorem wm_853 : Cond.static yL_build ∈ ww_GW := ww_gw (List.mem_of_getElem? (i := 853) (by decide +kernel)) rfl
theorem wk_L_29 : ww_sta RL 29 wy_L_build 1 := ⟨wc_L_build, wm_852, wm_853⟩
theorem wm_857 : ww_hd wy_L_inside ∈ ww_GW := ww_gw (List.mem_of_getElem? (i := 857) (by decide +kernel)) rfl
theorem wc_L_inside : ww_cal wy_L_inside 3 := ⟨wm_857, wm_24, ⟨by decide +kernel, by decide +kernel⟩, by decide +kernel, by decide⟩
theorem wm_855 : Cond.methodLink RL 76 yL_inside ∈ ww_GW := ww_gw (List.mem_of_getElem? (i := 855) (by decide +kernel)) rfl
theorem wm_856 : Cond.static yL_inside ∈ ww_GW := ww_gw (List.mem_of_getElem? (i := 856) (by decide +kernel)) rfl
theorem wk_L_76 : ww_sta RL 76 wy_L_inside 3 := ⟨wc_L_inside, wm_855, wm_856⟩
theorem wm_860 : ww_hd wy_L_room ∈ ww_GW := ww_gw (List.mem_of_getElem? (i := 860) (by decide +kernel)) rfl
theorem wc_L_room : ww_cal wy_L_room 2 := ⟨wm_860, wm_24, ⟨by decide +kernel, by decide +kernel⟩, by decide +kernel, by decide⟩
theorem wm_858 : Cond.methodLink RL 80 yL_room ∈ ww_GW := ww_gw (List.mem_of_getElem? (i := 858) (by decide +kernel)) rfl
theorem wm_859 : Cond.static yL_room ∈ ww_GW := ww_gw (List.mem_of_getElem? (i := 859) (by decide +kernel)) rfl
theorem wk_L_80 : ww_sta RL 80 wy_L_room 2 := ⟨wc_L_room, wm_858, wm_859⟩
theorem wm_863 : ww_hd wy_L_stands ∈ ww_GW := ww_gw (List.mem_of_getElem? (i := 863) (by decide +kernel)) rfl
theorem wc_L_stands : ww_cal wy_L_stands 2 := ⟨wm_863, wm_24, ⟨by decide +kernel, by decide +kernel⟩, by decide +kernel, by decide⟩
theorem wm_861 : Cond.methodLink RL 49 yL_stands ∈ ww_GW := ww_gw (List.mem_of_getElem? (i := 861) (by decide +kernel)) rfl
theorem wm_862 : Cond.static yL_stands ∈ ww_GW := ww_gw (List.mem_of_getElem? (i := 862) (by decide +kernel)) rfl
theorem wk_L_49 : ww_sta RL 49 wy_L_stands 2 := ⟨wc_L_stands, wm_861, wm_862⟩
theorem wm_48 : Cond.classLink RL 9 "WheelWorks" ∈ ww_GW := ww_gw (List.mem_of_getElem? (i := 48) (by decide +kernel)) rfl
theorem wm_49 : Cond.instantiable RX6 4 ∈ ww_GW := ww_gw (List.mem_of_getElem? (i := 49) (by decide +kernel)) rfl
theorem wn_L_9 : ww_new RL 9 7 := ⟨(RX6, TX6, 4), tyX6, rfl, rfl, tyX6_ok, by decide +kernel, wu_7, wm_48, wm_49, wm_25⟩
theorem wm_56 : Cond.classLink RX6 7 "java/util/ArrayList" ∈ ww_GW := ww_gw (List.mem_of_getElem? (i := 56) (by decide +kernel)) rfl
theorem wm_57 : Cond.instantiable RJx4a65c 3 ∈ ww_GW := ww_gw (List.mem_of_getElem? (i := 57) (by decide +kernel)) rfl
theorem wn_X6_7 : ww_new RX6 7 0 := ⟨(RJx4a65c, TJx4a65c, 3), tyJx4a65c, rfl, rfl, tyJx4a65c_ok, by decide +kernel, wu_0, wm_56, wm_57, wm_28⟩
theorem wm_82 : Cond.classLink RX6 16 "WheelWorks$KindLimits" ∈ ww_GW := ww_gw (List.mem_of_getElem? (i := 82) (by decide +kernel)) rfl
theorem wm_126 : Cond.instantiable RX1 3 ∈ ww_GW := ww_gw (List.mem_of_getElem? (i := 126) (by decide +kernel)) rfl
theorem wn_X6_16 : ww_new RX6 16 2 := ⟨(RX1, TX1, 3), tyX1, rfl, rfl, tyX1_ok, by decide +kernel, wu_2, wm_82, wm_126, wm_31⟩
theorem wm_84 : Cond.classLink RX6 22 "WheelWorks$Log" ∈ ww_GW := ww_gw (List.mem_of_getElem? (i := 84) (by decide +kernel)) rfl
theorem wm_85 : Cond.instantiable RX2 2 ∈ ww_GW := ww_gw (List.mem_of_getElem? (i := 85) (by decide +kernel)) rfl
theorem wn_X6_22 : ww_new RX6 22 3 := ⟨(RX2, TX2, 2), tyX2, rfl, rfl, tyX2_ok, by decide +kernel, wu_3, wm_84, wm_85, wm_29⟩
theorem wm_90 : Cond.classLink RX2 9 "java/util/ArrayList" ∈ ww_GW := ww_gw (List.mem_of_getElem? (i := 90) (by decide +kernel)) rfl
theorem wn_X2_9 : ww_new RX2 9 0 := ⟨(RJx4a65c, TJx4a65c, 3), tyJx4a65c, rfl, rfl, tyJx4a65c_ok, by decide +kernel, wu_0, wm_90, wm_57, wm_28⟩
theorem wm_100 : Cond.classLink RX6 29 "WheelWorks$Yard" ∈ ww_GW := ww_gw (List.mem_of_getElem? (i := 100) (by decide +kernel)) rfl
theorem wm_101 : Cond.instantiable RX5 5 ∈ ww_GW := ww_gw (List.mem_of_getElem? (i := 101) (by decide +kernel)) rfl
theorem wn_X6_29 : ww_new RX6 29 6 := ⟨(RX5, TX5, 5), tyX5, rfl, rfl, tyX5_ok, by decide +kernel, wu_6, wm_100, wm_101, wm_30⟩
theorem wm_106 : Cond.classLink RX5 9 "java/util/ArrayList" ∈ ww_GW := ww_gw (List.mem_of_getElem? (i := 106) (by decide +kernel)) rfl
theorem wn_X5_9 : ww_new RX5 9 0 := ⟨(RJx4a65c, TJx4a65c, 3), tyJx4a65c, rfl, rfl, tyJx4a65c_ok, by decide +kernel, wu_0, wm_106, wm_57, wm_28⟩
theorem wm_164 : Cond.classLink RX6 45 "java/lang/IllegalArgumentException" ∈ ww_GW := ww_gw (List.mem_of_getElem? (i := 164) (by decide +kernel)) rfl
theorem wm_240 : Cond.classLink RX6 56 "java/lang/IllegalStateException" ∈ ww_GW := ww_gw (List.mem_of_getElem? (i := 240) (by decide +kernel)) rfl
theorem wm_256 : Cond.classLink RX6 61 "WheelWorks$Part" ∈ ww_GW := ww_gw (List.mem_of_getElem? (i := 256) (by decide +kernel)) rfl
theorem wm_257 : Cond.instantiable RX3 18 ∈ ww_GW := ww_gw (List.mem_of_getElem? (i := 257) (by decide +kernel)) rfl
theorem wn_X6_61 : ww_new RX6 61 4 := ⟨(RX3, TX3, 18), tyX3, rfl, rfl, tyX3_ok, by decide +kernel, wu_4, wm_256, wm_257, wm_37⟩
theorem wm_262 : Cond.classLink RX3 31 "WheelWorks$Wheel" ∈ ww_GW := ww_gw (List.mem_of_getElem? (i := 262) (by decide +kernel)) rfl
theorem wm_263 : Cond.instantiable RX4 4 ∈ ww_GW := ww_gw (List.mem_of_getElem? (i := 263) (by decide +kernel)) rfl
theorem wn_X3_31 : ww_new RX3 31 5 := ⟨(RX4, TX4, 4), tyX4, rfl, rfl, tyX4_ok, by decide +kernel, wu_5, wm_262, wm_263, wm_38⟩
theorem wm_402 : Cond.classLink RJ7 110 "[Ljava/lang/Object;" ∈ ww_GW := ww_gw (List.mem_of_getElem? (i := 402) (by decide +kernel)) rfl
theorem wm_404 : Cond.classLink RJ7 2 "java/lang/Object" ∈ ww_GW := ww_gw (List.mem_of_getElem? (i := 404) (by decide +kernel)) rfl
theorem wm_412 : Cond.classLink RJx4a65c 7 "java/lang/Object" ∈ ww_GW := ww_gw (List.mem_of_getElem? (i := 412) (by decide +kernel)) rfl
theorem wm_427 : Cond.classLink RX6 305 "java/lang/IndexOutOfBoundsException" ∈ ww_GW := ww_gw (List.mem_of_getElem? (i := 427) (by decide +kernel)) rfl
theorem wm_487 : Cond.classLink RX2 22 "WheelWorks$Event" ∈ ww_GW := ww_gw (List.mem_of_getElem? (i := 487) (by decide +kernel)) rfl
theorem wm_488 : Cond.instantiable RX0 3 ∈ ww_GW := ww_gw (List.mem_of_getElem? (i := 488) (by decide +kernel)) rfl
theorem wn_X2_22 : ww_new RX2 22 1 := ⟨(RX0, TX0, 3), tyX0, rfl, rfl, tyX0_ok, by decide +kernel, wu_1, wm_487, wm_488, wm_46⟩
theorem wm_683 : Cond.classLink RX5 33 "WheelWorks$Part" ∈ ww_GW := ww_gw (List.mem_of_getElem? (i := 683) (by decide +kernel)) rfl
theorem wn_X5_33 : ww_new RX5 33 4 := ⟨(RX3, TX3, 18), tyX3, rfl, rfl, tyX3_ok, by decide +kernel, wu_4, wm_683, wm_257, wm_37⟩
theorem wm_377 : Cond.constant RJ8 200 (2147483639) ∈ ww_GW := ww_gw (List.mem_of_getElem? (i := 377) (by decide +kernel)) rfl
theorem wm_417 : Cond.constant RX6 70 (99999) ∈ ww_GW := ww_gw (List.mem_of_getElem? (i := 417) (by decide +kernel)) rfl
theorem wm_716 : Cond.constant RJ6 265 (1431655765) ∈ ww_GW := ww_gw (List.mem_of_getElem? (i := 716) (by decide +kernel)) rfl
theorem wm_717 : Cond.constant RJ6 266 (858993459) ∈ ww_GW := ww_gw (List.mem_of_getElem? (i := 717) (by decide +kernel)) rfl
theorem wm_718 : Cond.constant RJ6 267 (252645135) ∈ ww_GW := ww_gw (List.mem_of_getElem? (i := 718) (by decide +kernel)) rfl
theorem wm_851 : Cond.constant RL 7 (2147483647) ∈ ww_GW := ww_gw (List.mem_of_getElem? (i := 851) (by decide +kernel)) rfl
theorem wm_99 : Cond.arrayClass .int ∈ ww_GW := ww_gw (List.mem_of_getElem? (i := 99) (by decide +kernel)) rfl
theorem wm_53 : Cond.methodLink RX6 1 objectInit ∈ ww_GW := ww_gw (List.mem_of_getElem? (i := 53) (by decide +kernel)) rfl
theorem wm_67 : Cond.methodLink RJxa1e45 1 objectInit ∈ ww_GW := ww_gw (List.mem_of_getElem? (i := 67) (by decide +kernel)) rfl
theorem wm_89 : Cond.methodLink RX2 3 objectInit ∈ ww_GW := ww_gw (List.mem_of_getElem? (i := 89) (by decide +kernel)) rfl
theorem wm_105 : Cond.methodLink RX5 3 objectInit ∈ ww_GW := ww_gw (List.mem_of_getElem? (i := 105) (by decide +kernel)) rfl
theorem wm_130 : Cond.methodLink RX1 1 objectInit ∈ ww_GW := ww_gw (List.mem_of_getElem? (i := 130) (by decide +kernel)) rfl
theorem wm_261 : Cond.methodLink RX3 3 objectInit ∈ ww_GW := ww_gw (List.mem_of_getElem? (i := 261) (by decide +kernel)) rfl
theorem wm_267 : Cond.methodLink RX4 3 objectInit ∈ ww_GW := ww_gw (List.mem_of_getElem? (i := 267) (by decide +kernel)) rfl
theorem wm_492 : Cond.methodLink RX0 1 objectInit ∈ ww_GW := ww_gw (List.mem_of_getElem? (i := 492) (by decide +kernel)) rfl
theorem wm_54 : Cond.instanceMethod objectInit ∈ ww_GW := ww_gw (List.mem_of_getElem? (i := 54) (by decide +kernel)) rfl
theorem wm_55 : Cond.code objectInit ⟨#[0xb1]⟩ 1 none ∈ ww_GW := ww_gw (List.mem_of_getElem? (i := 55) (by decide +kernel)) rfl
theorem wm_384 : Cond.methodLink RJ7 86 ⟨"java/lang/Object", "getClass", "()Ljava/lang/Class;"⟩ ∈ ww_GW := ww_gw (List.mem_of_getElem? (i := 384) (by decide +kernel)) rfl
theorem wm_408 : Cond.methodLink RJ7 150 arraycopyName ∈ ww_GW := ww_gw (List.mem_of_getElem? (i := 408) (by decide +kernel)) rfl
theorem wm_747 : Cond.methodLink RJx4a65c 112 arraycopyName ∈ ww_GW := ww_gw (List.mem_of_getElem? (i := 747) (by decide +kernel)) rfl
theorem wm_410 : Cond.native arraycopyName ∈ ww_GW := ww_gw (List.mem_of_getElem? (i := 410) (by decide +kernel)) rfl
theorem wm_409 : Cond.static arraycopyName ∈ ww_GW := ww_gw (List.mem_of_getElem? (i := 409) (by decide +kernel)) rfl
theorem wm_42 : Cond.initialized "java/lang/System" ∈ ww_GW := ww_gw (List.mem_of_getElem? (i := 42) (by decide +kernel)) rfl
theorem wm_398 : Cond.native ⟨"java/lang/Object", "getClass", "()Ljava/lang/Class;"⟩ ∈ ww_GW := ww_gw (List.mem_of_getElem? (i := 398) (by decide +kernel)) rfl
theorem wm_385 : Cond.instanceMethod ⟨"java/lang/Object", "getClass", "()Ljava/lang/Class;"⟩ ∈ ww_GW := ww_gw (List.mem_of_getElem? (i := 385) (by decide +kernel)) rfl
theorem wm_879 : Cond.selects "[Ljava/lang/Object;" ⟨"java/lang/Object", "getClass", "()Ljava/lang/Class;"⟩ ⟨"java/lang/Object", "getClass", "()Ljava/lang/Class;"⟩ ∈ ww_GW := ww_gw (List.mem_of_getElem? (i := 879) (by decide +kernel)) rfl
theorem wm_68 : Cond.fieldLink RJx4a65c 39 RJx4a65c "DEFAULTCAPACITY_EMPTY_ELEMENTDATA" "[Ljava/lang/Object;" ∈ ww_GW := ww_gw (List.mem_of_getElem? (i := 68) (by decide +kernel)) rfl
theorem wx_at_X6_49 : ∀ w ∈ vx_atS RX6 49 "java/lang/IllegalArgumentException" ["java/lang/RuntimeException", "java/lang/Exception"], w ∈ ww_GW ∨ (∃ q ∈ ww_ca, w = .castable q.1 q.2) ∨ (∃ x ∈ ww_de, w = .declares x) := by
  have h : (vx_atS RX6 49 "java/lang/IllegalArgumentException" ["java/lang/RuntimeException", "java/lang/Exception"]).all (fun w => (decide (w ∈ lw_tbl) && goodWord w) || decide (∃ q ∈ ww_ca, w = .castable q.1 q.2) || decide (∃ x ∈ ww_de, w = .declares x)) = true := by decide +kernel
  intro w hw
  have h1 := List.all_eq_true.mp h w hw
  simp only [Bool.or_eq_true, Bool.and_eq_true, decide_eq_true_eq] at h1
  rcases h1 with (h1 | h1) | h1
  · exact Or.inl (ww_gw h1.1 h1.2)
  · exact Or.inr (Or.inl h1)
  · exact Or.inr (Or.inr h1)
theorem wm_35 : Cond.initialized "java/lang/IllegalArgumentException" ∈ ww_GW := ww_gw (List.mem_of_getElem? (i := 35) (by decide +kernel)) rfl
theorem wx_X6_45_47 : ww_thr RX6 45 47 49 "java/lang/IllegalArgumentException" "melt or mod out of range" ["java/lang/RuntimeException", "java/lang/Exception"] := ⟨by decide +kernel, by decide +kernel, wm_164, wm_35, by decide +kernel, wx_at_X6_49, rfl⟩
theorem wx_at_X6_60 : ∀ w ∈ vx_atS RX6 60 "java/lang/IllegalStateException" ["java/lang/RuntimeException", "java/lang/Exception"], w ∈ ww_GW ∨ (∃ q ∈ ww_ca, w = .castable q.1 q.2) ∨ (∃ x ∈ ww_de, w = .declares x) := by
  have h : (vx_atS RX6 60 "java/lang/IllegalStateException" ["java/lang/RuntimeException", "java/lang/Exception"]).all (fun w => (decide (w ∈ lw_tbl) && goodWord w) || decide (∃ q ∈ ww_ca, w = .castable q.1 q.2) || decide (∃ x ∈ ww_de, w = .declares x)) = true := by decide +kernel
  intro w hw
  have h1 := List.all_eq_true.mp h w hw
  simp only [Bool.or_eq_true, Bool.and_eq_true, decide_eq_true_eq] at h1
  rcases h1 with (h1 | h1) | h1
  · exact Or.inl (ww_gw h1.1 h1.2)
  · exact Or.inr (Or.inl h1)
  · exact Or.inr (Or.inr h1)
theorem wm_36 : Cond.initialized "java/lang/IllegalStateException" ∈ ww_GW := ww_gw (List.mem_of_getElem? (i := 36) (by decide +kernel)) rfl
theorem wx_X6_56_58 : ww_thr RX6 56 58 60 "java/lang/IllegalStateException" "no more parts" ["java/lang/RuntimeException", "java/lang/Exception"] := ⟨by decide +kernel, by decide +kernel, wm_240, wm_36, by decide +kernel, wx_at_X6_60, rfl⟩
theorem wx_X6_45_71 : ww_thr RX6 45 71 49 "java/lang/IllegalArgumentException" "life, interval or window out of range" ["java/lang/RuntimeException", "java/lang/Exception"] := ⟨by decide +kernel, by decide +kernel, wm_164, wm_35, by decide +kernel, wx_at_X6_49, rfl⟩
theorem wx_X6_45_94 : ww_thr RX6 45 94 49 "java/lang/IllegalArgumentException" "no place for such a part" ["java/lang/RuntimeException", "java/lang/Exception"] := ⟨by decide +kernel, by decide +kernel, wm_164, wm_35, by decide +kernel, wx_at_X6_49, rfl⟩
theorem wx_X6_56_104 : ww_thr RX6 56 104 60 "java/lang/IllegalStateException" "the part cannot be fitted" ["java/lang/RuntimeException", "java/lang/Exception"] := ⟨by decide +kernel, by decide +kernel, wm_240, wm_36, by decide +kernel, wx_at_X6_60, rfl⟩
theorem wx_X6_56_116 : ww_thr RX6 56 116 60 "java/lang/IllegalStateException" "the host cannot be fitted to" ["java/lang/RuntimeException", "java/lang/Exception"] := ⟨by decide +kernel, by decide +kernel, wm_240, wm_36, by decide +kernel, wx_at_X6_60, rfl⟩
theorem wx_X6_56_127 : ww_thr RX6 56 127 60 "java/lang/IllegalStateException" "the mods are too far apart" ["java/lang/RuntimeException", "java/lang/Exception"] := ⟨by decide +kernel, by decide +kernel, wm_240, wm_36, by decide +kernel, wx_at_X6_60, rfl⟩
theorem wx_X6_56_147 : ww_thr RX6 56 147 60 "java/lang/IllegalStateException" "in no host, or bound" ["java/lang/RuntimeException", "java/lang/Exception"] := ⟨by decide +kernel, by decide +kernel, wm_240, wm_36, by decide +kernel, wx_at_X6_60, rfl⟩
theorem wx_X6_56_152 : ww_thr RX6 56 152 60 "java/lang/IllegalStateException" "not in the store, or not empty" ["java/lang/RuntimeException", "java/lang/Exception"] := ⟨by decide +kernel, by decide +kernel, wm_240, wm_36, by decide +kernel, wx_at_X6_60, rfl⟩
theorem wx_X6_56_158 : ww_thr RX6 56 158 60 "java/lang/IllegalStateException" "bound, or waits for the night" ["java/lang/RuntimeException", "java/lang/Exception"] := ⟨by decide +kernel, by decide +kernel, wm_240, wm_36, by decide +kernel, wx_at_X6_60, rfl⟩
theorem wx_X6_56_166 : ww_thr RX6 56 166 60 "java/lang/IllegalStateException" "not released, or bound" ["java/lang/RuntimeException", "java/lang/Exception"] := ⟨by decide +kernel, by decide +kernel, wm_240, wm_36, by decide +kernel, wx_at_X6_60, rfl⟩
theorem wx_X6_45_188 : ww_thr RX6 45 188 49 "java/lang/IllegalArgumentException" "no bogie" ["java/lang/RuntimeException", "java/lang/Exception"] := ⟨by decide +kernel, by decide +kernel, wm_164, wm_35, by decide +kernel, wx_at_X6_49, rfl⟩
theorem wx_X6_56_194 : ww_thr RX6 56 194 60 "java/lang/IllegalStateException" "not both wheelsets, or bound" ["java/lang/RuntimeException", "java/lang/Exception"] := ⟨by decide +kernel, by decide +kernel, wm_240, wm_36, by decide +kernel, wx_at_X6_60, rfl⟩
theorem wx_X6_45_211 : ww_thr RX6 45 211 49 "java/lang/IllegalArgumentException" "error out of range" ["java/lang/RuntimeException", "java/lang/Exception"] := ⟨by decide +kernel, by decide +kernel, wm_164, wm_35, by decide +kernel, wx_at_X6_49, rfl⟩
theorem wx_X6_56_222 : ww_thr RX6 56 222 60 "java/lang/IllegalStateException" "no examination is possible" ["java/lang/RuntimeException", "java/lang/Exception"] := ⟨by decide +kernel, by decide +kernel, wm_240, wm_36, by decide +kernel, wx_at_X6_60, rfl⟩
theorem wx_X6_45_230 : ww_thr RX6 45 230 49 "java/lang/IllegalArgumentException" "kilometres out of range" ["java/lang/RuntimeException", "java/lang/Exception"] := ⟨by decide +kernel, by decide +kernel, wm_164, wm_35, by decide +kernel, wx_at_X6_49, rfl⟩
theorem wx_X6_56_236 : ww_thr RX6 56 236 60 "java/lang/IllegalStateException" "nothing can be waived" ["java/lang/RuntimeException", "java/lang/Exception"] := ⟨by decide +kernel, by decide +kernel, wm_240, wm_36, by decide +kernel, wx_at_X6_60, rfl⟩
theorem wx_X6_45_238 : ww_thr RX6 45 238 49 "java/lang/IllegalArgumentException" "neither wheelset nor motor" ["java/lang/RuntimeException", "java/lang/Exception"] := ⟨by decide +kernel, by decide +kernel, wm_164, wm_35, by decide +kernel, wx_at_X6_49, rfl⟩
theorem wx_X6_45_240 : ww_thr RX6 45 240 49 "java/lang/IllegalArgumentException" "size out of range" ["java/lang/RuntimeException", "java/lang/Exception"] := ⟨by decide +kernel, by decide +kernel, wm_164, wm_35, by decide +kernel, wx_at_X6_49, rfl⟩
theorem wx_X6_56_246 : ww_thr RX6 56 246 60 "java/lang/IllegalStateException" "cannot be looked at" ["java/lang/RuntimeException", "java/lang/Exception"] := ⟨by decide +kernel, by decide +kernel, wm_240, wm_36, by decide +kernel, wx_at_X6_60, rfl⟩
theorem wx_X6_56_251 : ww_thr RX6 56 251 60 "java/lang/IllegalStateException" "not quarantined, or bound" ["java/lang/RuntimeException", "java/lang/Exception"] := ⟨by decide +kernel, by decide +kernel, wm_240, wm_36, by decide +kernel, wx_at_X6_60, rfl⟩
theorem wx_X6_45_253 : ww_thr RX6 45 253 49 "java/lang/IllegalArgumentException" "melt out of range" ["java/lang/RuntimeException", "java/lang/Exception"] := ⟨by decide +kernel, by decide +kernel, wm_164, wm_35, by decide +kernel, wx_at_X6_49, rfl⟩
theorem wx_X6_45_261 : ww_thr RX6 45 261 49 "java/lang/IllegalArgumentException" "time out of range" ["java/lang/RuntimeException", "java/lang/Exception"] := ⟨by decide +kernel, by decide +kernel, wm_164, wm_35, by decide +kernel, wx_at_X6_49, rfl⟩
theorem wx_X6_56_270 : ww_thr RX6 56 270 60 "java/lang/IllegalStateException" "no room to wait, or waits" ["java/lang/RuntimeException", "java/lang/Exception"] := ⟨by decide +kernel, by decide +kernel, wm_240, wm_36, by decide +kernel, wx_at_X6_60, rfl⟩
theorem wx_X6_56_272 : ww_thr RX6 56 272 60 "java/lang/IllegalStateException" "stands on a road, or is scrapped" ["java/lang/RuntimeException", "java/lang/Exception"] := ⟨by decide +kernel, by decide +kernel, wm_240, wm_36, by decide +kernel, wx_at_X6_60, rfl⟩
theorem wx_X6_56_283 : ww_thr RX6 56 283 60 "java/lang/IllegalStateException" "none waits, or one stands on a road" ["java/lang/RuntimeException", "java/lang/Exception"] := ⟨by decide +kernel, by decide +kernel, wm_240, wm_36, by decide +kernel, wx_at_X6_60, rfl⟩
theorem wx_X6_56_288 : ww_thr RX6 56 288 60 "java/lang/IllegalStateException" "none stands on a road" ["java/lang/RuntimeException", "java/lang/Exception"] := ⟨by decide +kernel, by decide +kernel, wm_240, wm_36, by decide +kernel, wx_at_X6_60, rfl⟩
theorem wx_X6_45_299 : ww_thr RX6 45 299 49 "java/lang/IllegalArgumentException" "no such thing to tell of a part" ["java/lang/RuntimeException", "java/lang/Exception"] := ⟨by decide +kernel, by decide +kernel, wm_164, wm_35, by decide +kernel, wx_at_X6_49, rfl⟩
theorem wx_at_X6_309 : ∀ w ∈ vx_atS RX6 309 "java/lang/IndexOutOfBoundsException" ["java/lang/RuntimeException", "java/lang/Exception"], w ∈ ww_GW ∨ (∃ q ∈ ww_ca, w = .castable q.1 q.2) ∨ (∃ x ∈ ww_de, w = .declares x) := by
  have h : (vx_atS RX6 309 "java/lang/IndexOutOfBoundsException" ["java/lang/RuntimeException", "java/lang/Exception"]).all (fun w => (decide (w ∈ lw_tbl) && goodWord w) || decide (∃ q ∈ ww_ca, w = .castable q.1 q.2) || decide (∃ x ∈ ww_de, w = .declares x)) = true := by decide +kernel
  intro w hw
  have h1 := List.all_eq_true.mp h w hw
  simp only [Bool.or_eq_true, Bool.and_eq_true, decide_eq_true_eq] at h1
  rcases h1 with (h1 | h1) | h1
  · exact Or.inl (ww_gw h1.1 h1.2)
  · exact Or.inr (Or.inl h1)
  · exact Or.inr (Or.inr h1)
theorem wm_43 : Cond.initialized "java/lang/IndexOutOfBoundsException" ∈ ww_GW := ww_gw (List.mem_of_getElem? (i := 43) (by decide +kernel)) rfl
theorem wx_X6_305_307 : ww_thr RX6 305 307 309 "java/lang/IndexOutOfBoundsException" "no such move" ["java/lang/RuntimeException", "java/lang/Exception"] := ⟨by decide +kernel, by decide +kernel, wm_427, wm_43, by decide +kernel, wx_at_X6_309, rfl⟩
theorem wx_X6_45_318 : ww_thr RX6 45 318 49 "java/lang/IllegalArgumentException" "no such thing to tell of a wheelset" ["java/lang/RuntimeException", "java/lang/Exception"] := ⟨by decide +kernel, by decide +kernel, wm_164, wm_35, by decide +kernel, wx_at_X6_49, rfl⟩
theorem wx_X6_305_332 : ww_thr RX6 305 332 309 "java/lang/IndexOutOfBoundsException" "no such road or place" ["java/lang/RuntimeException", "java/lang/Exception"] := ⟨by decide +kernel, by decide +kernel, wm_427, wm_43, by decide +kernel, wx_at_X6_309, rfl⟩
theorem wx_X6_45_337 : ww_thr RX6 45 337 49 "java/lang/IllegalArgumentException" "kilometres or season out of range" ["java/lang/RuntimeException", "java/lang/Exception"] := ⟨by decide +kernel, by decide +kernel, wm_164, wm_35, by decide +kernel, wx_at_X6_49, rfl⟩
theorem wx_X6_45_339 : ww_thr RX6 45 339 49 "java/lang/IllegalArgumentException" "no such kind" ["java/lang/RuntimeException", "java/lang/Exception"] := ⟨by decide +kernel, by decide +kernel, wm_164, wm_35, by decide +kernel, wx_at_X6_49, rfl⟩
theorem wx_X6_305_341 : ww_thr RX6 305 341 309 "java/lang/IndexOutOfBoundsException" "no such part" ["java/lang/RuntimeException", "java/lang/Exception"] := ⟨by decide +kernel, by decide +kernel, wm_427, wm_43, by decide +kernel, wx_at_X6_309, rfl⟩
theorem wx_X6_45_343 : ww_thr RX6 45 343 49 "java/lang/IllegalArgumentException" "no train" ["java/lang/RuntimeException", "java/lang/Exception"] := ⟨by decide +kernel, by decide +kernel, wm_164, wm_35, by decide +kernel, wx_at_X6_49, rfl⟩
theorem wx_X6_45_349 : ww_thr RX6 45 349 49 "java/lang/IllegalArgumentException" "no wheelset" ["java/lang/RuntimeException", "java/lang/Exception"] := ⟨by decide +kernel, by decide +kernel, wm_164, wm_35, by decide +kernel, wx_at_X6_49, rfl⟩
