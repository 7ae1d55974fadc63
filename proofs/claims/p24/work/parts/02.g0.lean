set_option maxRecDepth 100000 in
theorem ggX0_isPending_X0_fact : GoodIn wsX0_isPending wsX0_fact := goodIn_r _ [5, 6, 7, 8, 9] rfl (by decide +kernel)
set_option maxRecDepth 20000 in
theorem gX0_isPending_X0_fact : GoodIn wsX0_isPending (wsV RX0 19 RX0 yX0_fact wsX0_fact) := goodIn_app (goodIn_of _ (by decide +kernel)) ggX0_isPending_X0_fact
set_option maxRecDepth 100000 in
theorem ggX0_put_X0_isMade : GoodIn wsX0_put wsX0_isMade := goodIn_r _ [6, 7, 8, 9] rfl (by decide +kernel)
set_option maxRecDepth 20000 in
theorem gX0_put_X0_isMade : GoodIn wsX0_put (wsV RX0 23 RX0 yX0_isMade wsX0_isMade) := goodIn_app (goodIn_of _ (by decide +kernel)) ggX0_put_X0_isMade
set_option maxRecDepth 100000 in
theorem ggX0_add_X0_isFull : GoodIn wsX0_add wsX0_isFull := goodIn_r _ [6, 1, 16, 17] rfl (by decide +kernel)
set_option maxRecDepth 20000 in
theorem gX0_add_X0_isFull : GoodIn wsX0_add (wsV RX0 27 RX0 yX0_isFull wsX0_isFull) := goodIn_app (goodIn_of _ (by decide +kernel)) ggX0_add_X0_isFull
set_option maxRecDepth 100000 in
theorem ggX0_add_X0_put : GoodIn wsX0_add wsX0_put := goodIn_r _ [10, 11, 12, 13, 14, 5, 15, 1, 16, 17] rfl (by decide +kernel)
set_option maxRecDepth 20000 in
theorem gX0_add_X0_put : GoodIn wsX0_add (wsV RX0 31 RX0 yX0_put wsX0_put) := goodIn_app (goodIn_of _ (by decide +kernel)) ggX0_add_X0_put
set_option maxRecDepth 100000 in
theorem ggX0_addOfLine_X0_lineFact : GoodIn wsX0_addOfLine wsX0_lineFact := goodIn_r _ [4] rfl (by decide +kernel)
set_option maxRecDepth 20000 in
theorem gX0_addOfLine_X0_lineFact : GoodIn wsX0_addOfLine (va_wsS RX0 35 yX0_lineFact wsX0_lineFact) := goodIn_app (goodIn_of _ (by decide +kernel)) ggX0_addOfLine_X0_lineFact
set_option maxRecDepth 100000 in
theorem ggX0_addOfLine_X0_add : GoodIn wsX0_addOfLine wsX0_add := goodIn_r _ [8, 9, 10, 11, 12, 3, 13, 14, 15, 16, 17, 18, 19, 20, 21, 22, 23, 24] rfl (by decide +kernel)
set_option maxRecDepth 20000 in
theorem gX0_addOfLine_X0_add : GoodIn wsX0_addOfLine (wsV RX0 39 RX0 yX0_add wsX0_add) := goodIn_app (goodIn_of _ (by decide +kernel)) ggX0_addOfLine_X0_add
set_option maxRecDepth 100000 in
theorem ggX0_insertionOf_X0_pendingOfLine : GoodIn wsX0_insertionOf wsX0_pendingOfLine := goodIn_r _ [5, 6, 7, 8, 4, 9, 10, 11, 12, 13, 14, 15, 16] rfl (by decide +kernel)
set_option maxRecDepth 20000 in
theorem gX0_insertionOf_X0_pendingOfLine : GoodIn wsX0_insertionOf (wsV RX0 43 RX0 yX0_pendingOfLine wsX0_pendingOfLine) := goodIn_app (goodIn_of _ (by decide +kernel)) ggX0_insertionOf_X0_pendingOfLine
set_option maxRecDepth 100000 in
theorem ggX0_removalOf_X0_pendingOfLine : GoodIn wsX0_removalOf wsX0_pendingOfLine := goodIn_r _ [5, 6, 7, 8, 4, 9, 10, 11, 12, 13, 14, 15, 16] rfl (by decide +kernel)
set_option maxRecDepth 20000 in
theorem gX0_removalOf_X0_pendingOfLine : GoodIn wsX0_removalOf (wsV RX0 43 RX0 yX0_pendingOfLine wsX0_pendingOfLine) := goodIn_app (goodIn_of _ (by decide +kernel)) ggX0_removalOf_X0_pendingOfLine
set_option maxRecDepth 100000 in
theorem ggX0_pendingOfLine_X0_lineFact : GoodIn wsX0_pendingOfLine wsX0_lineFact := goodIn_r _ [5] rfl (by decide +kernel)
set_option maxRecDepth 20000 in
theorem gX0_pendingOfLine_X0_lineFact : GoodIn wsX0_pendingOfLine (va_wsS RX0 35 yX0_lineFact wsX0_lineFact) := goodIn_app (goodIn_of _ (by decide +kernel)) ggX0_pendingOfLine_X0_lineFact
set_option maxRecDepth 100000 in
theorem ggX0_pendingOfLine_X0_fact : GoodIn wsX0_pendingOfLine wsX0_fact := goodIn_r _ [9, 1, 10, 11, 12] rfl (by decide +kernel)
set_option maxRecDepth 20000 in
theorem gX0_pendingOfLine_X0_fact : GoodIn wsX0_pendingOfLine (wsV RX0 19 RX0 yX0_fact wsX0_fact) := goodIn_app (goodIn_of _ (by decide +kernel)) ggX0_pendingOfLine_X0_fact
set_option maxRecDepth 100000 in
theorem ggX0_settingAt_X0_isSettingOf : GoodIn wsX0_settingAt wsX0_isSettingOf := goodIn_r _ [6, 1, 7, 8, 9] rfl (by decide +kernel)
set_option maxRecDepth 20000 in
theorem gX0_settingAt_X0_isSettingOf : GoodIn wsX0_settingAt (wsV RX0 46 RX0 yX0_isSettingOf wsX0_isSettingOf) := goodIn_app (goodIn_of _ (by decide +kernel)) ggX0_settingAt_X0_isSettingOf
set_option maxRecDepth 100000 in
theorem ggX0_settingsOfCell_X0_isSettingOf : GoodIn wsX0_settingsOfCell wsX0_isSettingOf := goodIn_r _ [6, 1, 7, 8, 9] rfl (by decide +kernel)
set_option maxRecDepth 20000 in
theorem gX0_settingsOfCell_X0_isSettingOf : GoodIn wsX0_settingsOfCell (wsV RX0 46 RX0 yX0_isSettingOf wsX0_isSettingOf) := goodIn_app (goodIn_of _ (by decide +kernel)) ggX0_settingsOfCell_X0_isSettingOf
set_option maxRecDepth 100000 in
theorem ggX0_settingsOfLine_X0_fact : GoodIn wsX0_settingsOfLine wsX0_fact := goodIn_r _ [6, 1, 7, 12, 13] rfl (by decide +kernel)
set_option maxRecDepth 20000 in
theorem gX0_settingsOfLine_X0_fact : GoodIn wsX0_settingsOfLine (wsV RX0 19 RX0 yX0_fact wsX0_fact) := goodIn_app (goodIn_of _ (by decide +kernel)) ggX0_settingsOfLine_X0_fact
set_option maxRecDepth 100000 in
theorem ggX0_settingsOfLine_X0_isPending : GoodIn wsX0_settingsOfLine wsX0_isPending := goodIn_r _ [11, 2, 3, 4, 5, 6, 1, 7, 12, 13] rfl (by decide +kernel)
set_option maxRecDepth 20000 in
theorem gX0_settingsOfLine_X0_isPending : GoodIn wsX0_settingsOfLine (wsV RX0 50 RX0 yX0_isPending wsX0_isPending) := goodIn_app (goodIn_of _ (by decide +kernel)) ggX0_settingsOfLine_X0_isPending
set_option maxRecDepth 100000 in
theorem ggX0_settingUnder_X0_isSettingOf : GoodIn wsX0_settingUnder wsX0_isSettingOf := goodIn_r _ [10, 1, 11, 12, 13] rfl (by decide +kernel)
set_option maxRecDepth 20000 in
theorem gX0_settingUnder_X0_isSettingOf : GoodIn wsX0_settingUnder (wsV RX0 46 RX0 yX0_isSettingOf wsX0_isSettingOf) := goodIn_app (goodIn_of _ (by decide +kernel)) ggX0_settingUnder_X0_isSettingOf
set_option maxRecDepth 100000 in
theorem ggX0_rests_X0_isPending : GoodIn wsX0_rests wsX0_isPending := goodIn_r _ [5, 6, 7, 8, 4, 9, 10, 11, 12, 13] rfl (by decide +kernel)
set_option maxRecDepth 20000 in
theorem gX0_rests_X0_isPending : GoodIn wsX0_rests (wsV RX0 50 RX0 yX0_isPending wsX0_isPending) := goodIn_app (goodIn_of _ (by decide +kernel)) ggX0_rests_X0_isPending
set_option maxRecDepth 100000 in
theorem ggX0_rests_X0_fact : GoodIn wsX0_rests wsX0_fact := goodIn_r _ [9, 10, 11, 12, 13] rfl (by decide +kernel)
set_option maxRecDepth 20000 in
theorem gX0_rests_X0_fact : GoodIn wsX0_rests (wsV RX0 19 RX0 yX0_fact wsX0_fact) := goodIn_app (goodIn_of _ (by decide +kernel)) ggX0_rests_X0_fact
set_option maxRecDepth 100000 in
theorem ggX0_supportsOf_X0_rests : GoodIn wsX0_supportsOf wsX0_rests := goodIn_r _ [6, 7, 8, 9, 5, 10, 11, 12, 13, 14, 1, 15, 16, 17] rfl (by decide +kernel)
set_option maxRecDepth 20000 in
theorem gX0_supportsOf_X0_rests : GoodIn wsX0_supportsOf (wsV RX0 58 RX0 yX0_rests wsX0_rests) := goodIn_app (goodIn_of _ (by decide +kernel)) ggX0_supportsOf_X0_rests
set_option maxRecDepth 100000 in
theorem ggX0_dependentsOf_X0_rests : GoodIn wsX0_dependentsOf wsX0_rests := goodIn_r _ [6, 7, 8, 9, 5, 10, 11, 12, 13, 14, 1, 15, 16, 17] rfl (by decide +kernel)
set_option maxRecDepth 20000 in
theorem gX0_dependentsOf_X0_rests : GoodIn wsX0_dependentsOf (wsV RX0 58 RX0 yX0_rests wsX0_rests) := goodIn_app (goodIn_of _ (by decide +kernel)) ggX0_dependentsOf_X0_rests
set_option maxRecDepth 100000 in
theorem ggX0_inState_X0_fact : GoodIn wsX0_inState wsX0_fact := goodIn_r _ [6, 1, 7, 8, 9] rfl (by decide +kernel)
set_option maxRecDepth 20000 in
theorem gX0_inState_X0_fact : GoodIn wsX0_inState (wsV RX0 19 RX0 yX0_fact wsX0_fact) := goodIn_app (goodIn_of _ (by decide +kernel)) ggX0_inState_X0_fact
set_option maxRecDepth 100000 in
theorem ggX0_pendingOf_X0_fact : GoodIn wsX0_pendingOf wsX0_fact := goodIn_r _ [6, 1, 7, 12, 13] rfl (by decide +kernel)
set_option maxRecDepth 20000 in
theorem gX0_pendingOf_X0_fact : GoodIn wsX0_pendingOf (wsV RX0 19 RX0 yX0_fact wsX0_fact) := goodIn_app (goodIn_of _ (by decide +kernel)) ggX0_pendingOf_X0_fact
set_option maxRecDepth 100000 in
theorem ggX0_pendingOf_X0_isPending : GoodIn wsX0_pendingOf wsX0_isPending := goodIn_r _ [11, 2, 3, 4, 5, 6, 1, 7, 12, 13] rfl (by decide +kernel)
set_option maxRecDepth 20000 in
theorem gX0_pendingOf_X0_isPending : GoodIn wsX0_pendingOf (wsV RX0 50 RX0 yX0_isPending wsX0_isPending) := goodIn_app (goodIn_of _ (by decide +kernel)) ggX0_pendingOf_X0_isPending
set_option maxRecDepth 100000 in
theorem ggX0_dissolveCell_X0_isSettingOf : GoodIn wsX0_dissolveCell wsX0_isSettingOf := goodIn_r _ [6, 1, 7, 16, 17] rfl (by decide +kernel)
set_option maxRecDepth 20000 in
theorem gX0_dissolveCell_X0_isSettingOf : GoodIn wsX0_dissolveCell (wsV RX0 46 RX0 yX0_isSettingOf wsX0_isSettingOf) := goodIn_app (goodIn_of _ (by decide +kernel)) ggX0_dissolveCell_X0_isSettingOf
set_option maxRecDepth 100000 in
theorem ggX0_dissolveCell_X0_put : GoodIn wsX0_dissolveCell wsX0_put := goodIn_r _ [11, 7, 12, 13, 14, 5, 15, 1, 16, 17] rfl (by decide +kernel)
set_option maxRecDepth 20000 in
theorem gX0_dissolveCell_X0_put : GoodIn wsX0_dissolveCell (wsV RX0 31 RX0 yX0_put wsX0_put) := goodIn_app (goodIn_of _ (by decide +kernel)) ggX0_dissolveCell_X0_put
set_option maxRecDepth 100000 in
theorem ggX0_leaveLine_X0_fact : GoodIn wsX0_leaveLine wsX0_fact := goodIn_r _ [6, 1, 7, 20, 21] rfl (by decide +kernel)
set_option maxRecDepth 20000 in
theorem gX0_leaveLine_X0_fact : GoodIn wsX0_leaveLine (wsV RX0 19 RX0 yX0_fact wsX0_fact) := goodIn_app (goodIn_of _ (by decide +kernel)) ggX0_leaveLine_X0_fact
set_option maxRecDepth 100000 in
theorem ggX0_leaveLine_X0_isPending : GoodIn wsX0_leaveLine wsX0_isPending := goodIn_r _ [11, 2, 3, 4, 5, 6, 1, 7, 20, 21] rfl (by decide +kernel)
set_option maxRecDepth 20000 in
theorem gX0_leaveLine_X0_isPending : GoodIn wsX0_leaveLine (wsV RX0 50 RX0 yX0_isPending wsX0_isPending) := goodIn_app (goodIn_of _ (by decide +kernel)) ggX0_leaveLine_X0_isPending
set_option maxRecDepth 100000 in
theorem ggX0_leaveLine_X0_put : GoodIn wsX0_leaveLine wsX0_put := goodIn_r _ [15, 7, 16, 17, 18, 5, 19, 1, 20, 21] rfl (by decide +kernel)
set_option maxRecDepth 20000 in
theorem gX0_leaveLine_X0_put : GoodIn wsX0_leaveLine (wsV RX0 31 RX0 yX0_put wsX0_put) := goodIn_app (goodIn_of _ (by decide +kernel)) ggX0_leaveLine_X0_put
set_option maxRecDepth 100000 in
theorem ggX0_copyFrom_X5_copy : GoodIn wsX0_copyFrom wsX5_copy := goodIn_r _ [5, 6, 7, 8, 9, 10, 11, 12, 13] rfl (by decide +kernel)
set_option maxRecDepth 20000 in
theorem gX0_copyFrom_X5_copy_n62 : GoodIn wsX0_copyFrom (wsX5_copy) := ggX0_copyFrom_X5_copy
set_option maxRecDepth 100000 in
theorem ggX1_init_X4_init : GoodIn wsX1_init wsX4_init := goodIn_r _ [9, 10, 2, 3, 11, 12, 13, 14, 15, 16, 17, 18, 19, 20, 21, 22, 23, 24, 25, 26, 27, 28, 29, 30, 31, 32, 33, 34, 35, 44, 45, 39, 40, 41, 42, 43, 46, 47] rfl (by decide +kernel)
set_option maxRecDepth 20000 in
theorem gX1_init_X4_init_n17 : GoodIn wsX1_init (wsX4_init) := ggX1_init_X4_init
set_option maxRecDepth 100000 in
theorem ggX1_after_J9_floorMod_7cf53 : GoodIn wsX1_after wsJ9_floorMod_7cf53 := goodIn_r _ [6] rfl (by decide +kernel)
set_option maxRecDepth 20000 in
theorem gX1_after_J9_floorMod_7cf53 : GoodIn wsX1_after (va_wsS RX1 22 yJ9_floorMod_7cf53 wsJ9_floorMod_7cf53) := goodIn_app (goodIn_of _ (by decide +kernel)) ggX1_after_J9_floorMod_7cf53
set_option maxRecDepth 100000 in
theorem ggX1_draft_X1_after : GoodIn wsX1_draft wsX1_after := goodIn_r _ [6, 7, 8, 9, 10, 11, 12, 48, 49, 50] rfl (by decide +kernel)
set_option maxRecDepth 20000 in
theorem gX1_draft_X1_after : GoodIn wsX1_draft (wsV RX1 31 RX1 yX1_after wsX1_after) := goodIn_app (goodIn_of _ (by decide +kernel)) ggX1_draft_X1_after
set_option maxRecDepth 100000 in
theorem ggX1_draft_X4_copyFrom : GoodIn wsX1_draft wsX4_copyFrom := goodIn_r _ [17, 18, 19, 20, 21, 22, 23, 24, 25, 26, 27, 28, 29, 30, 31, 32, 33, 34, 35, 36, 37, 38, 39, 40, 41, 42, 43, 44, 45, 46, 47, 51, 52, 53, 54, 55, 56, 57, 58, 59] rfl (by decide +kernel)
set_option maxRecDepth 20000 in
theorem gX1_draft_X4_copyFrom : GoodIn wsX1_draft (wsV RX1 35 RX4 yX4_copyFrom wsX4_copyFrom) := goodIn_app (goodIn_of _ (by decide +kernel)) ggX1_draft_X4_copyFrom
set_option maxRecDepth 100000 in
theorem ggX1_keep_J9_floorMod_7cf53 : GoodIn wsX1_keep wsJ9_floorMod_7cf53 := goodIn_r _ [6] rfl (by decide +kernel)
set_option maxRecDepth 20000 in
theorem gX1_keep_J9_floorMod_7cf53 : GoodIn wsX1_keep (va_wsS RX1 22 yJ9_floorMod_7cf53 wsJ9_floorMod_7cf53) := goodIn_app (goodIn_of _ (by decide +kernel)) ggX1_keep_J9_floorMod_7cf53
set_option maxRecDepth 100000 in
theorem ggX1_restore_X1_after : GoodIn wsX1_restore wsX1_after := goodIn_r _ [6, 7, 8, 9, 10, 11, 12, 48, 49, 50] rfl (by decide +kernel)
set_option maxRecDepth 20000 in
theorem gX1_restore_X1_after : GoodIn wsX1_restore (wsV RX1 31 RX1 yX1_after wsX1_after) := goodIn_app (goodIn_of _ (by decide +kernel)) ggX1_restore_X1_after
set_option maxRecDepth 100000 in
theorem ggX1_restore_X4_copyFrom : GoodIn wsX1_restore wsX4_copyFrom := goodIn_r _ [17, 18, 19, 20, 21, 22, 23, 24, 25, 26, 27, 28, 29, 30, 31, 32, 33, 34, 35, 36, 37, 38, 39, 40, 41, 42, 43, 44, 45, 46, 47, 51, 52, 53, 54, 55, 56, 57, 58, 59] rfl (by decide +kernel)
set_option maxRecDepth 20000 in
theorem gX1_restore_X4_copyFrom : GoodIn wsX1_restore (wsV RX1 35 RX4 yX4_copyFrom wsX4_copyFrom) := goodIn_app (goodIn_of _ (by decide +kernel)) ggX1_restore_X4_copyFrom
set_option maxRecDepth 100000 in
theorem ggX2_close_X2_placeOf : GoodIn wsX2_close wsX2_placeOf := goodIn_r _ [7, 1, 2, 8, 9] rfl (by decide +kernel)
set_option maxRecDepth 20000 in
theorem gX2_close_X2_placeOf : GoodIn wsX2_close (wsV RX2 25 RX2 yX2_placeOf wsX2_placeOf) := goodIn_app (goodIn_of _ (by decide +kernel)) ggX2_close_X2_placeOf
set_option maxRecDepth 100000 in
theorem ggX2_copyFrom_X5_copy : GoodIn wsX2_copyFrom wsX5_copy := goodIn_r _ [5, 6, 7, 8, 9, 10, 11, 12, 13] rfl (by decide +kernel)
set_option maxRecDepth 20000 in
theorem gX2_copyFrom_X5_copy_n29 : GoodIn wsX2_copyFrom (wsX5_copy) := ggX2_copyFrom_X5_copy
set_option maxRecDepth 100000 in
theorem ggX3_fault_X3_rewind : GoodIn wsX3_fault wsX3_rewind := goodIn_r _ [7, 1, 49, 50, 51, 52, 53, 54, 55, 56] rfl (by decide +kernel)
set_option maxRecDepth 20000 in
theorem gX3_fault_X3_rewind : GoodIn wsX3_fault (wsV RX3 19 RX3 yX3_rewind wsX3_rewind) := goodIn_app (goodIn_of _ (by decide +kernel)) ggX3_fault_X3_rewind
set_option maxRecDepth 100000 in
theorem ggX3_fault_X3_nextOrder : GoodIn wsX3_fault wsX3_nextOrder := goodIn_r _ [11, 1, 12, 13, 14, 15, 6, 16, 17, 18, 19, 20, 2, 21, 22, 23, 24, 25, 26, 27, 28, 29, 30, 31, 32, 33, 34, 35, 36, 37, 38, 39, 40, 41, 42, 43, 44, 45, 46, 47, 48, 49, 50, 51, 52, 53, 54, 55, 56] rfl (by decide +kernel)
set_option maxRecDepth 20000 in
theorem gX3_fault_X3_nextOrder : GoodIn wsX3_fault (wsV RX3 22 RX3 yX3_nextOrder wsX3_nextOrder) := goodIn_app (goodIn_of _ (by decide +kernel)) ggX3_fault_X3_nextOrder
set_option maxRecDepth 100000 in
theorem ggX3_nextOrder_X3_pass : GoodIn wsX3_nextOrder wsX3_pass := goodIn_r _ [7, 1, 8, 9, 10, 6, 11, 12, 13, 41, 42, 43, 44, 45, 46, 47, 48] rfl (by decide +kernel)
set_option maxRecDepth 20000 in
theorem gX3_nextOrder_X3_pass : GoodIn wsX3_nextOrder (wsV RX3 29 RX3 yX3_pass wsX3_pass) := goodIn_app (goodIn_of _ (by decide +kernel)) ggX3_nextOrder_X3_pass
set_option maxRecDepth 100000 in
theorem ggX3_nextOrder_X3_here : GoodIn wsX3_nextOrder wsX3_here := goodIn_r _ [11, 1, 12, 13, 41, 42, 43, 44, 45, 46, 47, 48] rfl (by decide +kernel)
set_option maxRecDepth 20000 in
theorem gX3_nextOrder_X3_here : GoodIn wsX3_nextOrder (wsV RX3 33 RX3 yX3_here wsX3_here) := goodIn_app (goodIn_of _ (by decide +kernel)) ggX3_nextOrder_X3_here
set_option maxRecDepth 100000 in
theorem ggX3_nextOrder_X3_readAxis : GoodIn wsX3_nextOrder wsX3_readAxis := goodIn_r _ [17, 18, 8, 9, 10, 6, 11, 1, 12, 13, 3, 4, 5, 7, 41, 42, 43, 44, 45, 46, 47, 48] rfl (by decide +kernel)
set_option maxRecDepth 20000 in
theorem gX3_nextOrder_X3_readAxis : GoodIn wsX3_nextOrder (wsV RX3 41 RX3 yX3_readAxis wsX3_readAxis) := goodIn_app (goodIn_of _ (by decide +kernel)) ggX3_nextOrder_X3_readAxis
set_option maxRecDepth 100000 in
theorem ggX3_nextOrder_X3_readPlace : GoodIn wsX3_nextOrder wsX3_readPlace := goodIn_r _ [22, 23, 24, 25, 26, 6, 27, 1, 8, 9, 10, 11, 12, 13, 28, 29, 30, 3, 4, 5, 7, 41, 42, 43, 44, 45, 46, 47, 48] rfl (by decide +kernel)
set_option maxRecDepth 20000 in
theorem gX3_nextOrder_X3_readPlace : GoodIn wsX3_nextOrder (wsV RX3 44 RX3 yX3_readPlace wsX3_readPlace) := goodIn_app (goodIn_of _ (by decide +kernel)) ggX3_nextOrder_X3_readPlace
set_option maxRecDepth 100000 in
theorem ggX3_nextOrder_X3_readColumn : GoodIn wsX3_nextOrder wsX3_readColumn := goodIn_r _ [34, 35, 24, 25, 26, 6, 27, 1, 8, 9, 10, 11, 12, 13, 28, 29, 30, 3, 4, 5, 7, 41, 42, 43, 44, 45, 46, 47, 48] rfl (by decide +kernel)
set_option maxRecDepth 20000 in
theorem gX3_nextOrder_X3_readColumn : GoodIn wsX3_nextOrder (wsV RX3 47 RX3 yX3_readColumn wsX3_readColumn) := goodIn_app (goodIn_of _ (by decide +kernel)) ggX3_nextOrder_X3_readColumn
set_option maxRecDepth 100000 in
theorem ggX3_nextOrder_X3_readValue : GoodIn wsX3_nextOrder wsX3_readValue := goodIn_r _ [39, 40, 24, 25, 26, 6, 27, 1, 8, 9, 10, 11, 12, 13, 28, 29, 30, 3, 4, 5, 7, 41, 42, 43, 44, 45, 46, 47, 48] rfl (by decide +kernel)
set_option maxRecDepth 20000 in
theorem gX3_nextOrder_X3_readValue : GoodIn wsX3_nextOrder (wsV RX3 50 RX3 yX3_readValue wsX3_readValue) := goodIn_app (goodIn_of _ (by decide +kernel)) ggX3_nextOrder_X3_readValue
set_option maxRecDepth 100000 in
theorem ggX3_readAxis_X3_here : GoodIn wsX3_readAxis wsX3_here := goodIn_r _ [6, 7, 8, 9, 14, 15, 16, 17, 18, 19, 20, 21] rfl (by decide +kernel)
set_option maxRecDepth 20000 in
theorem gX3_readAxis_X3_here : GoodIn wsX3_readAxis (wsV RX3 33 RX3 yX3_here wsX3_here) := goodIn_app (goodIn_of _ (by decide +kernel)) ggX3_readAxis_X3_here
set_option maxRecDepth 100000 in
theorem ggX3_readAxis_X3_pass : GoodIn wsX3_readAxis wsX3_pass := goodIn_r _ [13, 7, 2, 3, 4, 5, 6, 8, 9, 14, 15, 16, 17, 18, 19, 20, 21] rfl (by decide +kernel)
set_option maxRecDepth 20000 in
theorem gX3_readAxis_X3_pass : GoodIn wsX3_readAxis (wsV RX3 29 RX3 yX3_pass wsX3_pass) := goodIn_app (goodIn_of _ (by decide +kernel)) ggX3_readAxis_X3_pass
set_option maxRecDepth 100000 in
theorem ggX3_readPlace_X3_readNumber : GoodIn wsX3_readPlace wsX3_readNumber := goodIn_r _ [6, 7, 8, 9, 10, 5, 11, 12, 13, 14, 15, 16, 17, 18, 19, 20, 21, 22, 23, 24, 25, 26, 27, 28] rfl (by decide +kernel)
set_option maxRecDepth 20000 in
theorem gX3_readPlace_X3_readNumber : GoodIn wsX3_readPlace (wsV RX3 56 RX3 yX3_readNumber wsX3_readNumber) := goodIn_app (goodIn_of _ (by decide +kernel)) ggX3_readPlace_X3_readNumber
set_option maxRecDepth 100000 in
theorem ggX3_readColumn_X3_readNumber : GoodIn wsX3_readColumn wsX3_readNumber := goodIn_r _ [6, 7, 8, 9, 10, 5, 11, 12, 13, 14, 15, 16, 17, 18, 19, 20, 21, 22, 23, 24, 25, 26, 27, 28] rfl (by decide +kernel)
set_option maxRecDepth 20000 in
theorem gX3_readColumn_X3_readNumber : GoodIn wsX3_readColumn (wsV RX3 56 RX3 yX3_readNumber wsX3_readNumber) := goodIn_app (goodIn_of _ (by decide +kernel)) ggX3_readColumn_X3_readNumber
set_option maxRecDepth 100000 in
theorem ggX3_readValue_X3_readNumber : GoodIn wsX3_readValue wsX3_readNumber := goodIn_r _ [6, 7, 8, 9, 10, 5, 11, 12, 13, 14, 15, 16, 17, 18, 19, 20, 21, 22, 23, 24, 25, 26, 27, 28] rfl (by decide +kernel)
set_option maxRecDepth 20000 in
theorem gX3_readValue_X3_readNumber : GoodIn wsX3_readValue (wsV RX3 56 RX3 yX3_readNumber wsX3_readNumber) := goodIn_app (goodIn_of _ (by decide +kernel)) ggX3_readValue_X3_readNumber
set_option maxRecDepth 100000 in
theorem ggX3_readNumber_X3_here : GoodIn wsX3_readNumber wsX3_here := goodIn_r _ [6, 1, 7, 8, 16, 17, 18, 19, 20, 21, 22, 23] rfl (by decide +kernel)
set_option maxRecDepth 20000 in
theorem gX3_readNumber_X3_here : GoodIn wsX3_readNumber (wsV RX3 33 RX3 yX3_here wsX3_here) := goodIn_app (goodIn_of _ (by decide +kernel)) ggX3_readNumber_X3_here
set_option maxRecDepth 100000 in
theorem ggX3_readNumber_X3_isDigit : GoodIn wsX3_readNumber wsX3_isDigit := goodIn_r _ [11] rfl (by decide +kernel)
set_option maxRecDepth 20000 in
theorem gX3_readNumber_X3_isDigit : GoodIn wsX3_readNumber (va_wsS RX3 69 yX3_isDigit wsX3_isDigit) := goodIn_app (goodIn_of _ (by decide +kernel)) ggX3_readNumber_X3_isDigit
set_option maxRecDepth 100000 in
theorem ggX3_readNumber_X3_pass : GoodIn wsX3_readNumber wsX3_pass := goodIn_r _ [15, 1, 2, 3, 4, 5, 6, 7, 8, 16, 17, 18, 19, 20, 21, 22, 23] rfl (by decide +kernel)
set_option maxRecDepth 20000 in
theorem gX3_readNumber_X3_pass : GoodIn wsX3_readNumber (wsV RX3 29 RX3 yX3_pass wsX3_pass) := goodIn_app (goodIn_of _ (by decide +kernel)) ggX3_readNumber_X3_pass
set_option maxRecDepth 100000 in
theorem ggX3_pass_X3_here : GoodIn wsX3_pass wsX3_here := goodIn_r _ [6, 1, 7, 8, 9, 10, 11, 12, 13, 14, 15, 16] rfl (by decide +kernel)
set_option maxRecDepth 20000 in
theorem gX3_pass_X3_here : GoodIn wsX3_pass (wsV RX3 33 RX3 yX3_here wsX3_here) := goodIn_app (goodIn_of _ (by decide +kernel)) ggX3_pass_X3_here
set_option maxRecDepth 100000 in
theorem ggX4_init_X2_init : GoodIn wsX4_init wsX2_init := goodIn_r _ [18, 19, 2, 3, 20, 21, 22, 23, 9, 24, 29, 30] rfl (by decide +kernel)
set_option maxRecDepth 20000 in
theorem gX4_init_X2_init : GoodIn wsX4_init (wsX2_init) := ggX4_init_X2_init
set_option maxRecDepth 100000 in
theorem ggX4_init_X0_init : GoodIn wsX4_init wsX0_init := goodIn_r _ [26, 27, 2, 3, 9, 28, 36, 37] rfl (by decide +kernel)
set_option maxRecDepth 20000 in
theorem gX4_init_X0_init_n29 : GoodIn wsX4_init (wsX0_init) := ggX4_init_X0_init
set_option maxRecDepth 100000 in
theorem ggX4_copyFrom_X2_copyFrom : GoodIn wsX4_copyFrom wsX2_copyFrom := goodIn_r _ [10, 11, 12, 13, 14, 15, 16, 17, 18, 19, 20, 21, 22, 23, 36, 37] rfl (by decide +kernel)
set_option maxRecDepth 20000 in
theorem gX4_copyFrom_X2_copyFrom : GoodIn wsX4_copyFrom (wsV RX4 38 RX2 yX2_copyFrom wsX2_copyFrom) := goodIn_app (goodIn_of _ (by decide +kernel)) ggX4_copyFrom_X2_copyFrom
set_option maxRecDepth 100000 in
theorem ggX4_copyFrom_X5_copy : GoodIn wsX4_copyFrom wsX5_copy := goodIn_r _ [15, 16, 17, 18, 19, 20, 21, 22, 23] rfl (by decide +kernel)
set_option maxRecDepth 20000 in
theorem gX4_copyFrom_X5_copy_n42 : GoodIn wsX4_copyFrom (wsX5_copy) := ggX4_copyFrom_X5_copy
set_option maxRecDepth 100000 in
theorem ggX4_copyFrom_X0_copyFrom : GoodIn wsX4_copyFrom wsX0_copyFrom := goodIn_r _ [28, 29, 30, 13, 14, 15, 16, 17, 18, 19, 20, 21, 22, 23, 38, 39] rfl (by decide +kernel)
set_option maxRecDepth 20000 in
theorem gX4_copyFrom_X0_copyFrom : GoodIn wsX4_copyFrom (wsV RX4 46 RX0 yX0_copyFrom wsX0_copyFrom) := goodIn_app (goodIn_of _ (by decide +kernel)) ggX4_copyFrom_X0_copyFrom
set_option maxRecDepth 100000 in
theorem ggX4_slotAt_X5_isAxis : GoodIn wsX4_slotAt wsX5_isAxis := goodIn_r _ [3] rfl (by decide +kernel)
set_option maxRecDepth 20000 in
theorem gX4_slotAt_X5_isAxis_n49 : GoodIn wsX4_slotAt (wsX5_isAxis) := ggX4_slotAt_X5_isAxis
set_option maxRecDepth 100000 in
theorem ggX4_slotAt_X4_linesOf : GoodIn wsX4_slotAt wsX4_linesOf := goodIn_r _ [8, 9, 10, 18, 19, 20, 21, 22] rfl (by decide +kernel)
set_option maxRecDepth 20000 in
theorem gX4_slotAt_X4_linesOf : GoodIn wsX4_slotAt (wsV RX4 53 RX4 yX4_linesOf wsX4_linesOf) := goodIn_app (goodIn_of _ (by decide +kernel)) ggX4_slotAt_X4_linesOf
set_option maxRecDepth 100000 in
theorem ggX4_slotAt_X2_slotAt : GoodIn wsX4_slotAt wsX2_slotAt := goodIn_r _ [15, 16, 17, 23, 24] rfl (by decide +kernel)
set_option maxRecDepth 20000 in
theorem gX4_slotAt_X2_slotAt : GoodIn wsX4_slotAt (wsV RX4 57 RX2 yX2_slotAt wsX2_slotAt) := goodIn_app (goodIn_of _ (by decide +kernel)) ggX4_slotAt_X2_slotAt
set_option maxRecDepth 100000 in
theorem ggX4_insertLine_X5_isAuthor : GoodIn wsX4_insertLine wsX5_isAuthor := goodIn_r _ [6] rfl (by decide +kernel)
set_option maxRecDepth 20000 in
theorem gX4_insertLine_X5_isAuthor_n61 : GoodIn wsX4_insertLine (wsX5_isAuthor) := ggX4_insertLine_X5_isAuthor
set_option maxRecDepth 100000 in
theorem ggX4_insertLine_X5_isAxis : GoodIn wsX4_insertLine wsX5_isAxis := goodIn_r _ [8] rfl (by decide +kernel)
set_option maxRecDepth 20000 in
theorem gX4_insertLine_X5_isAxis_n49 : GoodIn wsX4_insertLine (wsX5_isAxis) := ggX4_insertLine_X5_isAxis
set_option maxRecDepth 100000 in
theorem ggX4_insertLine_X4_linesOf : GoodIn wsX4_insertLine wsX4_linesOf := goodIn_r _ [13, 14, 15, 65, 66, 67, 68, 69] rfl (by decide +kernel)
set_option maxRecDepth 20000 in
theorem gX4_insertLine_X4_linesOf : GoodIn wsX4_insertLine (wsV RX4 53 RX4 yX4_linesOf wsX4_linesOf) := goodIn_app (goodIn_of _ (by decide +kernel)) ggX4_insertLine_X4_linesOf
set_option maxRecDepth 100000 in
theorem ggX4_insertLine_X2_isFull : GoodIn wsX4_insertLine wsX2_isFull := goodIn_r _ [20, 21, 22, 63, 64] rfl (by decide +kernel)
set_option maxRecDepth 20000 in
theorem gX4_insertLine_X2_isFull : GoodIn wsX4_insertLine (wsV RX4 68 RX2 yX2_isFull wsX2_isFull) := goodIn_app (goodIn_of _ (by decide +kernel)) ggX4_insertLine_X2_isFull
set_option maxRecDepth 100000 in
theorem ggX4_insertLine_X0_isFull : GoodIn wsX4_insertLine wsX0_isFull := goodIn_r _ [27, 28, 70, 71] rfl (by decide +kernel)
set_option maxRecDepth 20000 in
theorem gX4_insertLine_X0_isFull : GoodIn wsX4_insertLine (wsV RX4 72 RX0 yX0_isFull wsX0_isFull) := goodIn_app (goodIn_of _ (by decide +kernel)) ggX4_insertLine_X0_isFull
set_option maxRecDepth 100000 in
theorem ggX4_insertLine_X2_open : GoodIn wsX4_insertLine wsX2_open := goodIn_r _ [32, 21, 22, 63, 64] rfl (by decide +kernel)
set_option maxRecDepth 20000 in
theorem gX4_insertLine_X2_open : GoodIn wsX4_insertLine (wsV RX4 73 RX2 yX2_open wsX2_open) := goodIn_app (goodIn_of _ (by decide +kernel)) ggX4_insertLine_X2_open
set_option maxRecDepth 100000 in
theorem ggX4_insertLine_X4_clearCells : GoodIn wsX4_insertLine wsX4_clearCells := goodIn_r _ [36, 37, 38, 39, 12, 40, 41, 65, 66, 67, 68, 69] rfl (by decide +kernel)
set_option maxRecDepth 20000 in
theorem gX4_insertLine_X4_clearCells : GoodIn wsX4_insertLine (wsV RX4 76 RX4 yX4_clearCells wsX4_clearCells) := goodIn_app (goodIn_of _ (by decide +kernel)) ggX4_insertLine_X4_clearCells
set_option maxRecDepth 100000 in
theorem ggX4_insertLine_X0_addOfLine : GoodIn wsX4_insertLine wsX0_addOfLine := goodIn_r _ [45, 46, 47, 26, 48, 49, 50, 51, 52, 28, 53, 24, 25, 27, 54, 55, 56, 57, 58, 59, 60, 61, 62, 70, 71] rfl (by decide +kernel)
set_option maxRecDepth 20000 in
theorem gX4_insertLine_X0_addOfLine : GoodIn wsX4_insertLine (wsV RX4 80 RX0 yX0_addOfLine wsX0_addOfLine) := goodIn_app (goodIn_of _ (by decide +kernel)) ggX4_insertLine_X0_addOfLine
set_option maxRecDepth 100000 in
theorem ggX4_removeLine_X4_slotAt : GoodIn wsX4_removeLine wsX4_slotAt := goodIn_r _ [7, 8, 9, 10, 11, 12, 13, 6, 14, 15, 16, 17, 18, 19, 20, 21, 22, 23, 89, 90, 91, 92, 93, 94, 95] rfl (by decide +kernel)
set_option maxRecDepth 20000 in
theorem gX4_removeLine_X4_slotAt : GoodIn wsX4_removeLine (wsV RX4 84 RX4 yX4_slotAt wsX4_slotAt) := goodIn_app (goodIn_of _ (by decide +kernel)) ggX4_removeLine_X4_slotAt
set_option maxRecDepth 100000 in
theorem ggX4_removeLine_X5_isAuthor : GoodIn wsX4_removeLine wsX5_isAuthor := goodIn_r _ [25] rfl (by decide +kernel)
set_option maxRecDepth 20000 in
theorem gX4_removeLine_X5_isAuthor_n61 : GoodIn wsX4_removeLine (wsX5_isAuthor) := ggX4_removeLine_X5_isAuthor
set_option maxRecDepth 100000 in
theorem ggX4_removeLine_X4_dropLine : GoodIn wsX4_removeLine wsX4_dropLine := goodIn_r _ [29, 2, 30, 31, 32, 33, 34, 35, 36, 37, 38, 39, 40, 41, 42, 43, 44, 45, 46, 47, 48, 49, 50, 51, 52, 11, 12, 13, 6, 14, 15, 16, 53, 54, 55, 20, 56, 22, 23, 57, 58, 59, 60, 89, 90, 91, 92, 93, 96, 97, 94, 95] rfl (by decide +kernel)
set_option maxRecDepth 20000 in
theorem gX4_removeLine_X4_dropLine : GoodIn wsX4_removeLine (wsV RX4 87 RX4 yX4_dropLine wsX4_dropLine) := goodIn_app (goodIn_of _ (by decide +kernel)) ggX4_removeLine_X4_dropLine
set_option maxRecDepth 100000 in
theorem ggX4_removeLine_X0_removalOf : GoodIn wsX4_removeLine wsX0_removalOf := goodIn_r _ [64, 65, 66, 67, 33, 68, 35, 69, 70, 71, 36, 37, 38, 39, 40, 96, 97] rfl (by decide +kernel)
set_option maxRecDepth 20000 in
theorem gX4_removeLine_X0_removalOf : GoodIn wsX4_removeLine (wsV RX4 90 RX0 yX0_removalOf wsX0_removalOf) := goodIn_app (goodIn_of _ (by decide +kernel)) ggX4_removeLine_X0_removalOf
set_option maxRecDepth 100000 in
theorem ggX4_removeLine_X0_insertionOf : GoodIn wsX4_removeLine wsX0_insertionOf := goodIn_r _ [75, 65, 66, 67, 33, 68, 35, 69, 70, 71, 36, 37, 38, 39, 40, 96, 97] rfl (by decide +kernel)
set_option maxRecDepth 20000 in
theorem gX4_removeLine_X0_insertionOf : GoodIn wsX4_removeLine (wsV RX4 93 RX0 yX0_insertionOf wsX0_insertionOf) := goodIn_app (goodIn_of _ (by decide +kernel)) ggX4_removeLine_X0_insertionOf
set_option maxRecDepth 100000 in
theorem ggX4_removeLine_X0_fact : GoodIn wsX4_removeLine wsX0_fact := goodIn_r _ [39, 35, 40, 96, 97] rfl (by decide +kernel)
set_option maxRecDepth 20000 in
theorem gX4_removeLine_X0_fact : GoodIn wsX4_removeLine (wsV RX4 96 RX0 yX0_fact wsX0_fact) := goodIn_app (goodIn_of _ (by decide +kernel)) ggX4_removeLine_X0_fact
set_option maxRecDepth 100000 in
theorem ggX4_removeLine_X0_addOfLine : GoodIn wsX4_removeLine wsX0_addOfLine := goodIn_r _ [80, 69, 70, 33, 71, 81, 82, 83, 84, 35, 85, 86, 87, 88, 45, 46, 47, 48, 40, 49, 50, 51, 52, 96, 97] rfl (by decide +kernel)
set_option maxRecDepth 20000 in
theorem gX4_removeLine_X0_addOfLine : GoodIn wsX4_removeLine (wsV RX4 80 RX0 yX0_addOfLine wsX0_addOfLine) := goodIn_app (goodIn_of _ (by decide +kernel)) ggX4_removeLine_X0_addOfLine
set_option maxRecDepth 100000 in
theorem ggX4_setCell_X2_slotAt : GoodIn wsX4_setCell wsX2_slotAt := goodIn_r _ [9, 10, 11, 90, 91] rfl (by decide +kernel)
set_option maxRecDepth 20000 in
theorem gX4_setCell_X2_slotAt : GoodIn wsX4_setCell (wsV RX4 57 RX2 yX2_slotAt wsX2_slotAt) := goodIn_app (goodIn_of _ (by decide +kernel)) ggX4_setCell_X2_slotAt
set_option maxRecDepth 100000 in
theorem ggX4_setCell_X5_isAuthor : GoodIn wsX4_setCell wsX5_isAuthor := goodIn_r _ [14] rfl (by decide +kernel)
set_option maxRecDepth 20000 in
theorem gX4_setCell_X5_isAuthor_n61 : GoodIn wsX4_setCell (wsX5_isAuthor) := ggX4_setCell_X5_isAuthor
set_option maxRecDepth 100000 in
theorem ggX4_setCell_X0_removalOf : GoodIn wsX4_setCell wsX0_removalOf := goodIn_r _ [19, 20, 21, 22, 18, 23, 24, 25, 26, 27, 28, 29, 30, 31, 32, 92, 93] rfl (by decide +kernel)
set_option maxRecDepth 20000 in
theorem gX4_setCell_X0_removalOf : GoodIn wsX4_setCell (wsV RX4 90 RX0 yX0_removalOf wsX0_removalOf) := goodIn_app (goodIn_of _ (by decide +kernel)) ggX4_setCell_X0_removalOf
set_option maxRecDepth 100000 in
theorem ggX4_setCell_X4_valueUnder : GoodIn wsX4_setCell wsX4_valueUnder := goodIn_r _ [37, 3, 38, 39, 40, 18, 41, 24, 42, 43, 44, 45, 46, 47, 48, 49, 32, 50, 51, 52, 36, 53, 54, 55, 29, 30, 31, 85, 86, 87, 88, 89, 92, 93] rfl (by decide +kernel)
set_option maxRecDepth 20000 in
theorem gX4_setCell_X4_valueUnder : GoodIn wsX4_setCell (wsV RX4 99 RX4 yX4_valueUnder wsX4_valueUnder) := goodIn_app (goodIn_of _ (by decide +kernel)) ggX4_setCell_X4_valueUnder
set_option maxRecDepth 100000 in
theorem ggX4_setCell_X0_dissolveCell : GoodIn wsX4_setCell wsX0_dissolveCell := goodIn_r _ [59, 24, 46, 47, 48, 18, 49, 32, 60, 61, 62, 63, 64, 65, 66, 67, 92, 93] rfl (by decide +kernel)
set_option maxRecDepth 20000 in
theorem gX4_setCell_X0_dissolveCell : GoodIn wsX4_setCell (wsV RX4 102 RX0 yX0_dissolveCell wsX0_dissolveCell) := goodIn_app (goodIn_of _ (by decide +kernel)) ggX4_setCell_X0_dissolveCell
set_option maxRecDepth 100000 in
theorem ggX4_setCell_X4_putBase : GoodIn wsX4_setCell wsX4_putBase := goodIn_r _ [71, 54, 85, 86, 87, 88, 89] rfl (by decide +kernel)
set_option maxRecDepth 20000 in
theorem gX4_setCell_X4_putBase : GoodIn wsX4_setCell (wsV RX4 105 RX4 yX4_putBase wsX4_putBase) := goodIn_app (goodIn_of _ (by decide +kernel)) ggX4_setCell_X4_putBase
set_option maxRecDepth 100000 in
theorem ggX4_setCell_X0_settingUnder : GoodIn wsX4_setCell wsX0_settingUnder := goodIn_r _ [41, 24, 42, 43, 44, 45, 46, 47, 48, 18, 49, 32, 92, 93] rfl (by decide +kernel)
set_option maxRecDepth 20000 in
theorem gX4_setCell_X0_settingUnder : GoodIn wsX4_setCell (wsV RX4 109 RX0 yX0_settingUnder wsX0_settingUnder) := goodIn_app (goodIn_of _ (by decide +kernel)) ggX4_setCell_X0_settingUnder
set_option maxRecDepth 100000 in
theorem ggX4_setCell_X0_fact : GoodIn wsX4_setCell wsX0_fact := goodIn_r _ [31, 24, 32, 92, 93] rfl (by decide +kernel)
set_option maxRecDepth 20000 in
theorem gX4_setCell_X0_fact : GoodIn wsX4_setCell (wsV RX4 96 RX0 yX0_fact wsX0_fact) := goodIn_app (goodIn_of _ (by decide +kernel)) ggX4_setCell_X0_fact
set_option maxRecDepth 100000 in
theorem ggX4_setCell_X4_setAgain : GoodIn wsX4_setCell wsX4_setAgain := goodIn_r _ [75, 3, 76, 61, 62, 18, 63, 32, 64, 65, 66, 67, 24, 85, 86, 87, 88, 89, 92, 93] rfl (by decide +kernel)
set_option maxRecDepth 20000 in
theorem gX4_setCell_X4_setAgain : GoodIn wsX4_setCell (wsV RX4 112 RX4 yX4_setAgain wsX4_setAgain) := goodIn_app (goodIn_of _ (by decide +kernel)) ggX4_setCell_X4_setAgain
set_option maxRecDepth 100000 in
theorem ggX4_setCell_X0_add : GoodIn wsX4_setCell wsX0_add := goodIn_r _ [80, 24, 81, 82, 83, 18, 84, 60, 61, 62, 63, 32, 64, 65, 66, 67, 92, 93] rfl (by decide +kernel)
set_option maxRecDepth 20000 in
theorem gX4_setCell_X0_add : GoodIn wsX4_setCell (wsV RX4 115 RX0 yX0_add wsX0_add) := goodIn_app (goodIn_of _ (by decide +kernel)) ggX4_setCell_X0_add
set_option maxRecDepth 100000 in
theorem ggX4_setAgain_X0_put : GoodIn wsX4_setAgain wsX0_put := goodIn_r _ [6, 7, 8, 9, 10, 5, 11, 12, 18, 19] rfl (by decide +kernel)
set_option maxRecDepth 20000 in
theorem gX4_setAgain_X0_put : GoodIn wsX4_setAgain (wsV RX4 119 RX0 yX0_put wsX0_put) := goodIn_app (goodIn_of _ (by decide +kernel)) ggX4_setAgain_X0_put
set_option maxRecDepth 100000 in
theorem ggX4_dropLine_X0_leaveLine : GoodIn wsX4_dropLine wsX0_leaveLine := goodIn_r _ [6, 7, 8, 9, 10, 5, 11, 12, 13, 14, 15, 16, 17, 18, 19, 20, 21, 22, 23, 24, 48, 49] rfl (by decide +kernel)
set_option maxRecDepth 20000 in
theorem gX4_dropLine_X0_leaveLine : GoodIn wsX4_dropLine (wsV RX4 122 RX0 yX0_leaveLine wsX0_leaveLine) := goodIn_app (goodIn_of _ (by decide +kernel)) ggX4_dropLine_X0_leaveLine
set_option maxRecDepth 100000 in
theorem ggX4_dropLine_X4_linesOf : GoodIn wsX4_dropLine wsX4_linesOf := goodIn_r _ [29, 30, 31, 43, 44, 45, 46, 47] rfl (by decide +kernel)
set_option maxRecDepth 20000 in
theorem gX4_dropLine_X4_linesOf : GoodIn wsX4_dropLine (wsV RX4 53 RX4 yX4_linesOf wsX4_linesOf) := goodIn_app (goodIn_of _ (by decide +kernel)) ggX4_dropLine_X4_linesOf
set_option maxRecDepth 100000 in
theorem ggX4_dropLine_X2_close : GoodIn wsX4_dropLine wsX2_close := goodIn_r _ [36, 37, 38, 39, 40, 41, 35, 42, 50, 51] rfl (by decide +kernel)
set_option maxRecDepth 20000 in
theorem gX4_dropLine_X2_close : GoodIn wsX4_dropLine (wsV RX4 125 RX2 yX2_close wsX2_close) := goodIn_app (goodIn_of _ (by decide +kernel)) ggX4_dropLine_X2_close
set_option maxRecDepth 100000 in
theorem ggX4_acceptWhole_X0_rests : GoodIn wsX4_acceptWhole wsX0_rests := goodIn_r _ [7, 8, 9, 10, 6, 11, 12, 13, 14, 15, 16, 17, 68, 69] rfl (by decide +kernel)
set_option maxRecDepth 20000 in
theorem gX4_acceptWhole_X0_rests : GoodIn wsX4_acceptWhole (wsV RX4 131 RX0 yX0_rests wsX0_rests) := goodIn_app (goodIn_of _ (by decide +kernel)) ggX4_acceptWhole_X0_rests
set_option maxRecDepth 100000 in
theorem ggX4_acceptWhole_X4_acceptAlone : GoodIn wsX4_acceptWhole wsX4_acceptAlone := goodIn_r _ [22, 1, 23, 24, 25, 6, 26, 17, 27, 28, 29, 30, 16, 31, 13, 14, 15, 32, 33, 34, 21, 35, 36, 37, 38, 39, 12, 8, 9, 10, 11, 40, 41, 42, 43, 44, 45, 46, 47, 48, 49, 50, 51, 52, 53, 54, 55, 56, 57, 58, 59, 60, 61, 62, 63, 64, 65, 66, 67, 68, 69, 70, 71] rfl (by decide +kernel)
set_option maxRecDepth 20000 in
theorem gX4_acceptWhole_X4_acceptAlone : GoodIn wsX4_acceptWhole (wsV RX4 135 RX4 yX4_acceptAlone wsX4_acceptAlone) := goodIn_app (goodIn_of _ (by decide +kernel)) ggX4_acceptWhole_X4_acceptAlone
set_option maxRecDepth 100000 in
theorem ggX4_acceptAlone_X0_put : GoodIn wsX4_acceptAlone wsX0_put := goodIn_r _ [6, 7, 8, 9, 10, 5, 11, 12, 59, 60] rfl (by decide +kernel)
set_option maxRecDepth 20000 in
theorem gX4_acceptAlone_X0_put : GoodIn wsX4_acceptAlone (wsV RX4 119 RX0 yX0_put wsX0_put) := goodIn_app (goodIn_of _ (by decide +kernel)) ggX4_acceptAlone_X0_put
set_option maxRecDepth 100000 in
theorem ggX4_acceptAlone_X0_fact : GoodIn wsX4_acceptAlone wsX0_fact := goodIn_r _ [16, 12, 7, 59, 60] rfl (by decide +kernel)
set_option maxRecDepth 20000 in
theorem gX4_acceptAlone_X0_fact : GoodIn wsX4_acceptAlone (wsV RX4 96 RX0 yX0_fact wsX0_fact) := goodIn_app (goodIn_of _ (by decide +kernel)) ggX4_acceptAlone_X0_fact
set_option maxRecDepth 100000 in
theorem ggX4_acceptAlone_X4_dropLine : GoodIn wsX4_acceptAlone wsX4_dropLine := goodIn_r _ [21, 1, 22, 23, 24, 5, 25, 12, 26, 14, 15, 16, 7, 27, 28, 29, 30, 31, 3, 4, 6, 8, 9, 10, 11, 32, 33, 34, 20, 35, 36, 37, 38, 39, 40, 41, 42, 43, 44, 45, 46, 47, 48, 54, 55, 56, 57, 58, 59, 60, 61, 62] rfl (by decide +kernel)
set_option maxRecDepth 20000 in
theorem gX4_acceptAlone_X4_dropLine : GoodIn wsX4_acceptAlone (wsV RX4 87 RX4 yX4_dropLine wsX4_dropLine) := goodIn_app (goodIn_of _ (by decide +kernel)) ggX4_acceptAlone_X4_dropLine
set_option maxRecDepth 100000 in
theorem ggX4_acceptAlone_X4_putBase : GoodIn wsX4_acceptAlone wsX4_putBase := goodIn_r _ [52, 53, 54, 55, 56, 57, 58] rfl (by decide +kernel)
set_option maxRecDepth 20000 in
theorem gX4_acceptAlone_X4_putBase : GoodIn wsX4_acceptAlone (wsV RX4 105 RX4 yX4_putBase wsX4_putBase) := goodIn_app (goodIn_of _ (by decide +kernel)) ggX4_acceptAlone_X4_putBase
set_option maxRecDepth 100000 in
theorem ggX4_rejectWhole_X0_rests : GoodIn wsX4_rejectWhole wsX0_rests := goodIn_r _ [7, 8, 9, 10, 6, 11, 12, 13, 14, 15, 16, 17, 59, 60] rfl (by decide +kernel)
set_option maxRecDepth 20000 in
theorem gX4_rejectWhole_X0_rests : GoodIn wsX4_rejectWhole (wsV RX4 131 RX0 yX0_rests wsX0_rests) := goodIn_app (goodIn_of _ (by decide +kernel)) ggX4_rejectWhole_X0_rests
set_option maxRecDepth 100000 in
theorem ggX4_rejectWhole_X0_put : GoodIn wsX4_rejectWhole wsX0_put := goodIn_r _ [21, 17, 22, 23, 24, 6, 25, 16, 59, 60] rfl (by decide +kernel)
set_option maxRecDepth 20000 in
theorem gX4_rejectWhole_X0_put : GoodIn wsX4_rejectWhole (wsV RX4 119 RX0 yX0_put wsX0_put) := goodIn_app (goodIn_of _ (by decide +kernel)) ggX4_rejectWhole_X0_put
set_option maxRecDepth 100000 in
theorem ggX4_rejectWhole_X0_fact : GoodIn wsX4_rejectWhole wsX0_fact := goodIn_r _ [15, 16, 17, 59, 60] rfl (by decide +kernel)
set_option maxRecDepth 20000 in
theorem gX4_rejectWhole_X0_fact : GoodIn wsX4_rejectWhole (wsV RX4 96 RX0 yX0_fact wsX0_fact) := goodIn_app (goodIn_of _ (by decide +kernel)) ggX4_rejectWhole_X0_fact
set_option maxRecDepth 100000 in
theorem ggX4_rejectWhole_X4_dropLine : GoodIn wsX4_rejectWhole wsX4_dropLine := goodIn_r _ [31, 1, 32, 33, 34, 6, 35, 16, 12, 13, 14, 15, 17, 8, 9, 10, 11, 36, 19, 20, 21, 22, 23, 24, 25, 37, 38, 39, 30, 40, 41, 42, 43, 44, 45, 46, 47, 48, 49, 50, 51, 52, 53, 54, 55, 56, 57, 58, 59, 60, 61, 62] rfl (by decide +kernel)
set_option maxRecDepth 20000 in
theorem gX4_rejectWhole_X4_dropLine : GoodIn wsX4_rejectWhole (wsV RX4 87 RX4 yX4_dropLine wsX4_dropLine) := goodIn_app (goodIn_of _ (by decide +kernel)) ggX4_rejectWhole_X4_dropLine
set_option maxRecDepth 100000 in
theorem ggX4_settleAll_X0_fact : GoodIn wsX4_settleAll wsX0_fact := goodIn_r _ [7, 8, 9, 77, 78] rfl (by decide +kernel)
set_option maxRecDepth 20000 in
theorem gX4_settleAll_X0_fact : GoodIn wsX4_settleAll (wsV RX4 96 RX0 yX0_fact wsX0_fact) := goodIn_app (goodIn_of _ (by decide +kernel)) ggX4_settleAll_X0_fact
set_option maxRecDepth 100000 in
theorem ggX4_settleAll_X0_isPending : GoodIn wsX4_settleAll wsX0_isPending := goodIn_r _ [13, 14, 4, 5, 6, 7, 8, 9, 77, 78] rfl (by decide +kernel)
set_option maxRecDepth 20000 in
theorem gX4_settleAll_X0_isPending : GoodIn wsX4_settleAll (wsV RX4 138 RX0 yX0_isPending wsX0_isPending) := goodIn_app (goodIn_of _ (by decide +kernel)) ggX4_settleAll_X0_isPending
set_option maxRecDepth 100000 in
theorem ggX4_settleAll_X4_acceptWhole : GoodIn wsX4_settleAll wsX4_acceptWhole := goodIn_r _ [19, 1, 2, 20, 21, 22, 6, 23, 24, 11, 12, 13, 14, 4, 5, 7, 8, 9, 25, 26, 27, 18, 28, 29, 30, 31, 32, 33, 34, 35, 36, 3, 37, 38, 39, 40, 41, 42, 43, 44, 45, 46, 47, 48, 49, 50, 51, 52, 53, 54, 55, 56, 57, 58, 59, 60, 61, 62, 63, 64, 65, 66, 67, 72, 73, 74, 75, 76, 77, 78, 79, 80] rfl (by decide +kernel)
set_option maxRecDepth 20000 in
theorem gX4_settleAll_X4_acceptWhole : GoodIn wsX4_settleAll (wsV RX4 141 RX4 yX4_acceptWhole wsX4_acceptWhole) := goodIn_app (goodIn_of _ (by decide +kernel)) ggX4_settleAll_X4_acceptWhole
set_option maxRecDepth 100000 in
theorem ggX4_settleAll_X4_rejectWhole : GoodIn wsX4_settleAll wsX4_rejectWhole := goodIn_r _ [71, 1, 2, 20, 21, 22, 6, 23, 24, 11, 12, 13, 14, 4, 5, 7, 8, 9, 29, 30, 31, 32, 33, 34, 35, 36, 3, 37, 38, 39, 18, 40, 41, 42, 43, 44, 45, 46, 47, 48, 49, 50, 51, 52, 53, 54, 55, 56, 57, 58, 59, 60, 61, 62, 72, 73, 74, 75, 76, 77, 78, 79, 80] rfl (by decide +kernel)
set_option maxRecDepth 20000 in
theorem gX4_settleAll_X4_rejectWhole : GoodIn wsX4_settleAll (wsV RX4 144 RX4 yX4_rejectWhole wsX4_rejectWhole) := goodIn_app (goodIn_of _ (by decide +kernel)) ggX4_settleAll_X4_rejectWhole
set_option maxRecDepth 100000 in
theorem ggX4_clearCells_X4_putBase : GoodIn wsX4_clearCells wsX4_putBase := goodIn_r _ [5, 6, 7, 8, 9, 10, 11] rfl (by decide +kernel)
set_option maxRecDepth 20000 in
theorem gX4_clearCells_X4_putBase : GoodIn wsX4_clearCells (wsV RX4 105 RX4 yX4_putBase wsX4_putBase) := goodIn_app (goodIn_of _ (by decide +kernel)) ggX4_clearCells_X4_putBase
set_option maxRecDepth 100000 in
theorem ggX4_valueUnder_X0_settingUnder : GoodIn wsX4_valueUnder wsX0_settingUnder := goodIn_r _ [6, 7, 8, 9, 10, 11, 12, 13, 14, 5, 15, 16, 32, 33] rfl (by decide +kernel)
set_option maxRecDepth 20000 in
theorem gX4_valueUnder_X0_settingUnder : GoodIn wsX4_valueUnder (wsV RX4 109 RX0 yX0_settingUnder wsX0_settingUnder) := goodIn_app (goodIn_of _ (by decide +kernel)) ggX4_valueUnder_X0_settingUnder
set_option maxRecDepth 100000 in
theorem ggX4_valueUnder_X4_base : GoodIn wsX4_valueUnder wsX4_base := goodIn_r _ [21, 22, 27, 28, 29, 30, 31] rfl (by decide +kernel)
set_option maxRecDepth 20000 in
theorem gX4_valueUnder_X4_base : GoodIn wsX4_valueUnder (wsV RX4 147 RX4 yX4_base wsX4_base) := goodIn_app (goodIn_of _ (by decide +kernel)) ggX4_valueUnder_X4_base
set_option maxRecDepth 100000 in
theorem ggX4_valueUnder_X0_fact : GoodIn wsX4_valueUnder wsX0_fact := goodIn_r _ [26, 7, 16, 32, 33] rfl (by decide +kernel)
set_option maxRecDepth 20000 in
theorem gX4_valueUnder_X0_fact : GoodIn wsX4_valueUnder (wsV RX4 96 RX0 yX0_fact wsX0_fact) := goodIn_app (goodIn_of _ (by decide +kernel)) ggX4_valueUnder_X0_fact
set_option maxRecDepth 100000 in
theorem ggX4_valueBelow_X0_fact : GoodIn wsX4_valueBelow wsX0_fact := goodIn_r _ [6, 7, 8, 41, 42] rfl (by decide +kernel)
set_option maxRecDepth 20000 in
theorem gX4_valueBelow_X0_fact : GoodIn wsX4_valueBelow (wsV RX4 96 RX0 yX0_fact wsX0_fact) := goodIn_app (goodIn_of _ (by decide +kernel)) ggX4_valueBelow_X0_fact
set_option maxRecDepth 100000 in
theorem ggX4_valueBelow_X0_isPending : GoodIn wsX4_valueBelow wsX0_isPending := goodIn_r _ [12, 13, 3, 4, 5, 6, 7, 8, 41, 42] rfl (by decide +kernel)
set_option maxRecDepth 20000 in
theorem gX4_valueBelow_X0_isPending : GoodIn wsX4_valueBelow (wsV RX4 138 RX0 yX0_isPending wsX0_isPending) := goodIn_app (goodIn_of _ (by decide +kernel)) ggX4_valueBelow_X0_isPending
set_option maxRecDepth 100000 in
theorem ggX4_valueBelow_X4_valueUnder : GoodIn wsX4_valueBelow wsX4_valueUnder := goodIn_r _ [18, 1, 19, 20, 21, 5, 22, 7, 23, 24, 25, 26, 27, 28, 29, 30, 8, 31, 32, 33, 17, 34, 35, 2, 3, 4, 6, 36, 37, 38, 39, 40, 41, 42] rfl (by decide +kernel)
set_option maxRecDepth 20000 in
theorem gX4_valueBelow_X4_valueUnder : GoodIn wsX4_valueBelow (wsV RX4 99 RX4 yX4_valueUnder wsX4_valueUnder) := goodIn_app (goodIn_of _ (by decide +kernel)) ggX4_valueBelow_X4_valueUnder
set_option maxRecDepth 100000 in
theorem ggX4_isShown_X0_removalOf : GoodIn wsX4_isShown wsX0_removalOf := goodIn_r _ [6, 7, 8, 9, 5, 10, 11, 12, 13, 14, 15, 16, 17, 18, 19, 29, 30] rfl (by decide +kernel)
set_option maxRecDepth 20000 in
theorem gX4_isShown_X0_removalOf : GoodIn wsX4_isShown (wsV RX4 90 RX0 yX0_removalOf wsX0_removalOf) := goodIn_app (goodIn_of _ (by decide +kernel)) ggX4_isShown_X0_removalOf
set_option maxRecDepth 100000 in
theorem ggX4_isShown_X0_insertionOf : GoodIn wsX4_isShown wsX0_insertionOf := goodIn_r _ [23, 7, 8, 9, 5, 10, 11, 12, 13, 14, 15, 16, 17, 18, 19, 29, 30] rfl (by decide +kernel)
set_option maxRecDepth 20000 in
theorem gX4_isShown_X0_insertionOf : GoodIn wsX4_isShown (wsV RX4 93 RX0 yX0_insertionOf wsX0_insertionOf) := goodIn_app (goodIn_of _ (by decide +kernel)) ggX4_isShown_X0_insertionOf
set_option maxRecDepth 100000 in
theorem ggX4_shownLines_X4_linesOf : GoodIn wsX4_shownLines wsX4_linesOf := goodIn_r _ [6, 7, 8, 45, 46, 47, 48, 49] rfl (by decide +kernel)
set_option maxRecDepth 20000 in
theorem gX4_shownLines_X4_linesOf : GoodIn wsX4_shownLines (wsV RX4 53 RX4 yX4_linesOf wsX4_linesOf) := goodIn_app (goodIn_of _ (by decide +kernel)) ggX4_shownLines_X4_linesOf
set_option maxRecDepth 100000 in
theorem ggX4_shownLines_X2_slotAt : GoodIn wsX4_shownLines wsX2_slotAt := goodIn_r _ [13, 14, 15, 43, 44] rfl (by decide +kernel)
set_option maxRecDepth 20000 in
theorem gX4_shownLines_X2_slotAt : GoodIn wsX4_shownLines (wsV RX4 57 RX2 yX2_slotAt wsX2_slotAt) := goodIn_app (goodIn_of _ (by decide +kernel)) ggX4_shownLines_X2_slotAt
set_option maxRecDepth 100000 in
theorem ggX4_shownLines_X4_isShown : GoodIn wsX4_shownLines wsX4_isShown := goodIn_r _ [19, 20, 21, 22, 23, 24, 25, 26, 27, 28, 29, 30, 31, 32, 33, 34, 35, 36, 37, 38, 39, 40, 41, 42, 45, 46, 47, 48, 49, 50, 51] rfl (by decide +kernel)
set_option maxRecDepth 20000 in
theorem gX4_shownLines_X4_isShown : GoodIn wsX4_shownLines (wsV RX4 150 RX4 yX4_isShown wsX4_isShown) := goodIn_app (goodIn_of _ (by decide +kernel)) ggX4_shownLines_X4_isShown
set_option maxRecDepth 100000 in
theorem ggX4_slotInView_X4_linesOf : GoodIn wsX4_slotInView wsX4_linesOf := goodIn_r _ [6, 7, 8, 45, 46, 47, 48, 49] rfl (by decide +kernel)
set_option maxRecDepth 20000 in
theorem gX4_slotInView_X4_linesOf : GoodIn wsX4_slotInView (wsV RX4 53 RX4 yX4_linesOf wsX4_linesOf) := goodIn_app (goodIn_of _ (by decide +kernel)) ggX4_slotInView_X4_linesOf
set_option maxRecDepth 100000 in
theorem ggX4_slotInView_X2_slotAt : GoodIn wsX4_slotInView wsX2_slotAt := goodIn_r _ [13, 14, 15, 43, 44] rfl (by decide +kernel)
set_option maxRecDepth 20000 in
theorem gX4_slotInView_X2_slotAt : GoodIn wsX4_slotInView (wsV RX4 57 RX2 yX2_slotAt wsX2_slotAt) := goodIn_app (goodIn_of _ (by decide +kernel)) ggX4_slotInView_X2_slotAt
set_option maxRecDepth 100000 in
theorem ggX4_slotInView_X4_isShown : GoodIn wsX4_slotInView wsX4_isShown := goodIn_r _ [19, 20, 21, 22, 23, 24, 25, 26, 27, 28, 29, 30, 31, 32, 33, 34, 35, 36, 37, 38, 39, 40, 41, 42, 45, 46, 47, 48, 49, 50, 51] rfl (by decide +kernel)
set_option maxRecDepth 20000 in
theorem gX4_slotInView_X4_isShown : GoodIn wsX4_slotInView (wsV RX4 150 RX4 yX4_isShown wsX4_isShown) := goodIn_app (goodIn_of _ (by decide +kernel)) ggX4_slotInView_X4_isShown
set_option maxRecDepth 100000 in
theorem ggX4_placeInView_X4_linesOf : GoodIn wsX4_placeInView wsX4_linesOf := goodIn_r _ [6, 7, 8, 45, 46, 47, 48, 49] rfl (by decide +kernel)
set_option maxRecDepth 20000 in
theorem gX4_placeInView_X4_linesOf : GoodIn wsX4_placeInView (wsV RX4 53 RX4 yX4_linesOf wsX4_linesOf) := goodIn_app (goodIn_of _ (by decide +kernel)) ggX4_placeInView_X4_linesOf
set_option maxRecDepth 100000 in
theorem ggX4_placeInView_X2_slotAt : GoodIn wsX4_placeInView wsX2_slotAt := goodIn_r _ [13, 14, 15, 43, 44] rfl (by decide +kernel)
set_option maxRecDepth 20000 in
theorem gX4_placeInView_X2_slotAt : GoodIn wsX4_placeInView (wsV RX4 57 RX2 yX2_slotAt wsX2_slotAt) := goodIn_app (goodIn_of _ (by decide +kernel)) ggX4_placeInView_X2_slotAt
set_option maxRecDepth 100000 in
theorem ggX4_placeInView_X4_isShown : GoodIn wsX4_placeInView wsX4_isShown := goodIn_r _ [19, 20, 21, 22, 23, 24, 25, 26, 27, 28, 29, 30, 31, 32, 33, 34, 35, 36, 37, 38, 39, 40, 41, 42, 45, 46, 47, 48, 49, 50, 51] rfl (by decide +kernel)
set_option maxRecDepth 20000 in
theorem gX4_placeInView_X4_isShown : GoodIn wsX4_placeInView (wsV RX4 150 RX4 yX4_isShown wsX4_isShown) := goodIn_app (goodIn_of _ (by decide +kernel)) ggX4_placeInView_X4_isShown
set_option maxRecDepth 100000 in
theorem ggX4_valueInView_X4_base : GoodIn wsX4_valueInView wsX4_base := goodIn_r _ [5, 6, 31, 32, 33, 34, 35] rfl (by decide +kernel)
set_option maxRecDepth 20000 in
theorem gX4_valueInView_X4_base : GoodIn wsX4_valueInView (wsV RX4 147 RX4 yX4_base wsX4_base) := goodIn_app (goodIn_of _ (by decide +kernel)) ggX4_valueInView_X4_base
set_option maxRecDepth 100000 in
theorem ggX4_valueInView_X4_valueUnder : GoodIn wsX4_valueInView wsX4_valueUnder := goodIn_r _ [10, 11, 12, 13, 14, 15, 16, 17, 18, 19, 20, 21, 22, 23, 24, 25, 26, 1, 2, 3, 4, 5, 6, 27, 28, 29, 30, 31, 32, 33, 34, 35, 36, 37] rfl (by decide +kernel)
set_option maxRecDepth 20000 in
theorem gX4_valueInView_X4_valueUnder : GoodIn wsX4_valueInView (wsV RX4 99 RX4 yX4_valueUnder wsX4_valueUnder) := goodIn_app (goodIn_of _ (by decide +kernel)) ggX4_valueInView_X4_valueUnder
set_option maxRecDepth 100000 in
theorem ggX4_total_X2_slotAt : GoodIn wsX4_total wsX2_slotAt := goodIn_r _ [7, 8, 9, 74, 75] rfl (by decide +kernel)
set_option maxRecDepth 20000 in
theorem gX4_total_X2_slotAt : GoodIn wsX4_total (wsV RX4 57 RX2 yX2_slotAt wsX2_slotAt) := goodIn_app (goodIn_of _ (by decide +kernel)) ggX4_total_X2_slotAt
set_option maxRecDepth 100000 in
theorem ggX4_total_X4_isShown : GoodIn wsX4_total wsX4_isShown := goodIn_r _ [14, 15, 16, 17, 18, 19, 20, 21, 22, 23, 24, 25, 26, 27, 28, 29, 30, 31, 32, 33, 34, 35, 36, 37, 69, 70, 71, 72, 73, 76, 77] rfl (by decide +kernel)
set_option maxRecDepth 20000 in
theorem gX4_total_X4_isShown : GoodIn wsX4_total (wsV RX4 150 RX4 yX4_isShown wsX4_isShown) := goodIn_app (goodIn_of _ (by decide +kernel)) ggX4_total_X4_isShown
set_option maxRecDepth 100000 in
theorem ggX4_total_X4_totalOfRow : GoodIn wsX4_total wsX4_totalOfRow := goodIn_r _ [41, 42, 2, 3, 4, 5, 6, 7, 8, 9, 10, 11, 12, 13, 14, 15, 16, 17, 18, 19, 20, 21, 22, 23, 24, 25, 26, 27, 28, 29, 30, 31, 32, 33, 34, 35, 36, 37, 43, 44, 45, 46, 47, 48, 49, 50, 51, 52, 53, 54, 55, 56, 57, 58, 59, 60, 61, 62, 63, 64, 65, 66, 67, 68, 69, 70, 71, 72, 73, 74, 75, 76, 77] rfl (by decide +kernel)
set_option maxRecDepth 20000 in
theorem gX4_total_X4_totalOfRow : GoodIn wsX4_total (wsV RX4 154 RX4 yX4_totalOfRow wsX4_totalOfRow) := goodIn_app (goodIn_of _ (by decide +kernel)) ggX4_total_X4_totalOfRow
set_option maxRecDepth 100000 in
theorem ggX4_totalOfRow_X2_slotAt : GoodIn wsX4_totalOfRow wsX2_slotAt := goodIn_r _ [7, 8, 9, 69, 70] rfl (by decide +kernel)
set_option maxRecDepth 20000 in
theorem gX4_totalOfRow_X2_slotAt : GoodIn wsX4_totalOfRow (wsV RX4 57 RX2 yX2_slotAt wsX2_slotAt) := goodIn_app (goodIn_of _ (by decide +kernel)) ggX4_totalOfRow_X2_slotAt
set_option maxRecDepth 100000 in
theorem ggX4_totalOfRow_X4_isShown : GoodIn wsX4_totalOfRow wsX4_isShown := goodIn_r _ [14, 15, 16, 17, 18, 19, 20, 21, 22, 23, 24, 25, 26, 27, 28, 29, 30, 31, 32, 33, 34, 35, 36, 37, 64, 65, 66, 67, 68, 71, 72] rfl (by decide +kernel)
set_option maxRecDepth 20000 in
theorem gX4_totalOfRow_X4_isShown : GoodIn wsX4_totalOfRow (wsV RX4 150 RX4 yX4_isShown wsX4_isShown) := goodIn_app (goodIn_of _ (by decide +kernel)) ggX4_totalOfRow_X4_isShown
set_option maxRecDepth 100000 in
theorem ggX4_totalOfRow_X4_valueInView : GoodIn wsX4_totalOfRow wsX4_valueInView := goodIn_r _ [41, 42, 43, 44, 13, 45, 46, 47, 48, 49, 50, 15, 51, 52, 53, 19, 54, 25, 55, 56, 57, 58, 59, 60, 61, 62, 33, 63, 30, 31, 32, 64, 65, 66, 67, 68, 71, 72] rfl (by decide +kernel)
set_option maxRecDepth 20000 in
theorem gX4_totalOfRow_X4_valueInView : GoodIn wsX4_totalOfRow (wsV RX4 157 RX4 yX4_valueInView wsX4_valueInView) := goodIn_app (goodIn_of _ (by decide +kernel)) ggX4_totalOfRow_X4_valueInView
set_option maxRecDepth 100000 in
theorem ggX4_pendingInReadingOrder_X4_lineChanges : GoodIn wsX4_pendingInReadingOrder wsX4_lineChanges := goodIn_r _ [5, 6, 7, 8, 9, 10, 11, 12, 13, 14, 15, 16, 17, 18, 19, 20, 21, 71, 72, 73, 74, 75, 76, 77] rfl (by decide +kernel)
set_option maxRecDepth 20000 in
theorem gX4_pendingInReadingOrder_X4_lineChanges : GoodIn wsX4_pendingInReadingOrder (wsV RX4 160 RX4 yX4_lineChanges wsX4_lineChanges) := goodIn_app (goodIn_of _ (by decide +kernel)) ggX4_pendingInReadingOrder_X4_lineChanges
set_option maxRecDepth 100000 in
theorem ggX4_pendingInReadingOrder_X4_lineChangeAt : GoodIn wsX4_pendingInReadingOrder wsX4_lineChangeAt := goodIn_r _ [25, 26, 6, 27, 28, 29, 4, 30, 31, 32, 33, 34, 35, 36, 37, 38, 39, 40, 41, 42, 10, 43, 44, 45, 46, 47, 12, 48, 49, 50, 13, 14, 15, 16, 17, 51, 52, 53, 54, 78, 79, 71, 72, 73, 74, 75, 76, 77] rfl (by decide +kernel)
set_option maxRecDepth 20000 in
theorem gX4_pendingInReadingOrder_X4_lineChangeAt : GoodIn wsX4_pendingInReadingOrder (wsV RX4 163 RX4 yX4_lineChangeAt wsX4_lineChangeAt) := goodIn_app (goodIn_of _ (by decide +kernel)) ggX4_pendingInReadingOrder_X4_lineChangeAt
set_option maxRecDepth 100000 in
theorem ggX4_pendingInReadingOrder_X4_settingInReadingOrder : GoodIn wsX4_pendingInReadingOrder wsX4_settingInReadingOrder := goodIn_r _ [58, 31, 26, 32, 6, 33, 34, 35, 36, 37, 38, 39, 59, 60, 61, 10, 62, 12, 63, 64, 65, 66, 17, 67, 68, 69, 70, 71, 72, 73, 74, 75, 78, 79, 76, 77] rfl (by decide +kernel)
set_option maxRecDepth 20000 in
theorem gX4_pendingInReadingOrder_X4_settingInReadingOrder : GoodIn wsX4_pendingInReadingOrder (wsV RX4 166 RX4 yX4_settingInReadingOrder wsX4_settingInReadingOrder) := goodIn_app (goodIn_of _ (by decide +kernel)) ggX4_pendingInReadingOrder_X4_settingInReadingOrder
set_option maxRecDepth 100000 in
theorem ggX4_lineChanges_X0_pendingOf : GoodIn wsX4_lineChanges wsX0_pendingOf := goodIn_r _ [6, 7, 8, 9, 10, 5, 11, 12, 13, 14, 15, 16, 22, 23] rfl (by decide +kernel)
set_option maxRecDepth 20000 in
theorem gX4_lineChanges_X0_pendingOf : GoodIn wsX4_lineChanges (wsV RX4 169 RX0 yX0_pendingOf wsX0_pendingOf) := goodIn_app (goodIn_of _ (by decide +kernel)) ggX4_lineChanges_X0_pendingOf
set_option maxRecDepth 100000 in
theorem ggX4_lineChangeAt_X4_linesOf : GoodIn wsX4_lineChangeAt wsX4_linesOf := goodIn_r _ [7, 8, 9, 41, 42, 43, 44, 45] rfl (by decide +kernel)
set_option maxRecDepth 20000 in
theorem gX4_lineChangeAt_X4_linesOf : GoodIn wsX4_lineChangeAt (wsV RX4 53 RX4 yX4_linesOf wsX4_linesOf) := goodIn_app (goodIn_of _ (by decide +kernel)) ggX4_lineChangeAt_X4_linesOf
set_option maxRecDepth 100000 in
theorem ggX4_lineChangeAt_X2_slotAt : GoodIn wsX4_lineChangeAt wsX2_slotAt := goodIn_r _ [14, 15, 16, 39, 40] rfl (by decide +kernel)
set_option maxRecDepth 20000 in
theorem gX4_lineChangeAt_X2_slotAt : GoodIn wsX4_lineChangeAt (wsV RX4 57 RX2 yX2_slotAt wsX2_slotAt) := goodIn_app (goodIn_of _ (by decide +kernel)) ggX4_lineChangeAt_X2_slotAt
set_option maxRecDepth 100000 in
theorem ggX4_lineChangeAt_X0_insertionOf : GoodIn wsX4_lineChangeAt wsX0_insertionOf := goodIn_r _ [21, 22, 23, 24, 20, 25, 26, 27, 28, 29, 30, 31, 32, 33, 34, 46, 47] rfl (by decide +kernel)
set_option maxRecDepth 20000 in
theorem gX4_lineChangeAt_X0_insertionOf : GoodIn wsX4_lineChangeAt (wsV RX4 93 RX0 yX0_insertionOf wsX0_insertionOf) := goodIn_app (goodIn_of _ (by decide +kernel)) ggX4_lineChangeAt_X0_insertionOf
set_option maxRecDepth 100000 in
theorem ggX4_lineChangeAt_X0_removalOf : GoodIn wsX4_lineChangeAt wsX0_removalOf := goodIn_r _ [38, 22, 23, 24, 20, 25, 26, 27, 28, 29, 30, 31, 32, 33, 34, 46, 47] rfl (by decide +kernel)
set_option maxRecDepth 20000 in
theorem gX4_lineChangeAt_X0_removalOf : GoodIn wsX4_lineChangeAt (wsV RX4 90 RX0 yX0_removalOf wsX0_removalOf) := goodIn_app (goodIn_of _ (by decide +kernel)) ggX4_lineChangeAt_X0_removalOf
set_option maxRecDepth 100000 in
theorem ggX4_settingInReadingOrder_X2_slotAt : GoodIn wsX4_settingInReadingOrder wsX2_slotAt := goodIn_r _ [9, 10, 11, 32, 33] rfl (by decide +kernel)
set_option maxRecDepth 20000 in
theorem gX4_settingInReadingOrder_X2_slotAt : GoodIn wsX4_settingInReadingOrder (wsV RX4 57 RX2 yX2_slotAt wsX2_slotAt) := goodIn_app (goodIn_of _ (by decide +kernel)) ggX4_settingInReadingOrder_X2_slotAt
set_option maxRecDepth 100000 in
theorem ggX4_settingInReadingOrder_X0_settingsOfCell : GoodIn wsX4_settingInReadingOrder wsX0_settingsOfCell := goodIn_r _ [16, 17, 18, 19, 20, 15, 21, 22, 34, 35] rfl (by decide +kernel)
set_option maxRecDepth 20000 in
theorem gX4_settingInReadingOrder_X0_settingsOfCell : GoodIn wsX4_settingInReadingOrder (wsV RX4 172 RX0 yX0_settingsOfCell wsX0_settingsOfCell) := goodIn_app (goodIn_of _ (by decide +kernel)) ggX4_settingInReadingOrder_X0_settingsOfCell
set_option maxRecDepth 100000 in
theorem ggX4_settingInReadingOrder_X0_settingAt : GoodIn wsX4_settingInReadingOrder wsX0_settingAt := goodIn_r _ [26, 17, 18, 19, 20, 15, 21, 22, 34, 35] rfl (by decide +kernel)
set_option maxRecDepth 20000 in
theorem gX4_settingInReadingOrder_X0_settingAt : GoodIn wsX4_settingInReadingOrder (wsV RX4 175 RX0 yX0_settingAt wsX0_settingAt) := goodIn_app (goodIn_of _ (by decide +kernel)) ggX4_settingInReadingOrder_X0_settingAt
set_option maxRecDepth 100000 in
theorem ggX5_init_X4_init : GoodIn wsX5_init wsX4_init := goodIn_r _ [17, 18, 2, 3, 19, 20, 21, 22, 23, 24, 25, 26, 27, 28, 29, 30, 31, 32, 33, 34, 35, 36, 37, 38, 39, 40, 41, 42, 43, 74, 75, 55, 56, 57, 58, 59, 76, 77] rfl (by decide +kernel)
set_option maxRecDepth 20000 in
theorem gX5_init_X4_init_n9 : GoodIn wsX5_init (wsX4_init) := ggX5_init_X4_init
set_option maxRecDepth 100000 in
theorem ggX5_init_X1_init : GoodIn wsX5_init wsX1_init := goodIn_r _ [46, 47, 2, 3, 48, 49, 5, 6, 16, 17, 18, 19, 20, 21, 22, 23, 24, 25, 26, 27, 28, 29, 30, 31, 32, 33, 34, 35, 36, 37, 38, 39, 40, 41, 42, 43, 63, 64, 65, 55, 56, 57, 58, 59, 74, 75, 76, 77] rfl (by decide +kernel)
set_option maxRecDepth 20000 in
theorem gX5_init_X1_init : GoodIn wsX5_init (wsX1_init) := ggX5_init_X1_init
set_option maxRecDepth 100000 in
theorem ggX5_init_X3_init : GoodIn wsX5_init wsX3_init := goodIn_r _ [51, 52, 2, 3, 53, 54, 66, 67, 68, 69, 70, 71, 72, 73] rfl (by decide +kernel)
set_option maxRecDepth 20000 in
theorem gX5_init_X3_init_n25 : GoodIn wsX5_init (wsX3_init) := ggX5_init_X3_init
set_option maxRecDepth 100000 in
theorem ggX5_track_X1_draft : GoodIn wsX5_track wsX1_draft := goodIn_r _ [9, 10, 11, 12, 13, 8, 14, 15, 16, 17, 18, 19, 20, 21, 22, 23, 24, 25, 26, 27, 28, 29, 30, 31, 32, 33, 34, 35, 36, 37, 38, 39, 40, 41, 42, 43, 44, 45, 46, 47, 48, 49, 50, 51, 52, 53, 54, 55, 80, 81, 82, 75, 76, 77, 78, 79, 83, 84, 85, 86] rfl (by decide +kernel)
set_option maxRecDepth 20000 in
theorem gX5_track_X1_draft : GoodIn wsX5_track (wsV RX5 34 RX1 yX1_draft wsX1_draft) := goodIn_app (goodIn_of _ (by decide +kernel)) ggX5_track_X1_draft
set_option maxRecDepth 100000 in
theorem ggX5_track_X0_inState : GoodIn wsX5_track wsX0_inState := goodIn_r _ [59, 55, 60, 61, 62, 52, 63, 54, 85, 86] rfl (by decide +kernel)
set_option maxRecDepth 20000 in
theorem gX5_track_X0_inState : GoodIn wsX5_track (wsV RX5 42 RX0 yX0_inState wsX0_inState) := goodIn_app (goodIn_of _ (by decide +kernel)) ggX5_track_X0_inState
set_option maxRecDepth 100000 in
theorem ggX5_track_X5_recorded : GoodIn wsX5_track wsX5_recorded := goodIn_r _ [67, 3, 68, 69, 70, 8, 71, 10, 16, 17, 18, 19, 20, 72, 73, 74, 80, 81, 82] rfl (by decide +kernel)
set_option maxRecDepth 20000 in
theorem gX5_track_X5_recorded : GoodIn wsX5_track (wsV RX5 48 RX5 yX5_recorded wsX5_recorded) := goodIn_app (goodIn_of _ (by decide +kernel)) ggX5_track_X5_recorded
set_option maxRecDepth 100000 in
theorem ggX5_insert_X1_draft : GoodIn wsX5_insert wsX1_draft := goodIn_r _ [7, 8, 9, 10, 11, 6, 12, 13, 14, 15, 16, 17, 18, 19, 20, 21, 22, 23, 24, 25, 26, 27, 28, 29, 30, 31, 32, 33, 34, 35, 36, 37, 38, 39, 40, 41, 42, 43, 44, 45, 46, 47, 48, 49, 50, 51, 52, 53, 118, 119, 120, 121, 122, 123, 124, 125, 126, 127, 128, 129] rfl (by decide +kernel)
set_option maxRecDepth 20000 in
theorem gX5_insert_X1_draft : GoodIn wsX5_insert (wsV RX5 34 RX1 yX1_draft wsX1_draft) := goodIn_app (goodIn_of _ (by decide +kernel)) ggX5_insert_X1_draft
set_option maxRecDepth 100000 in
theorem ggX5_insert_X4_insertLine : GoodIn wsX5_insert wsX4_insertLine := goodIn_r _ [57, 58, 28, 27, 59, 37, 60, 61, 62, 63, 64, 65, 22, 66, 24, 25, 67, 68, 69, 32, 70, 35, 34, 71, 72, 73, 50, 74, 53, 75, 76, 77, 78, 79, 80, 81, 82, 83, 84, 85, 86, 26, 87, 88, 89, 90, 91, 92, 93, 94, 95, 96, 97, 98, 99, 100, 101, 102, 52, 103, 104, 105, 106, 126, 127, 121, 122, 123, 124, 125, 128, 129] rfl (by decide +kernel)
set_option maxRecDepth 20000 in
theorem gX5_insert_X4_insertLine : GoodIn wsX5_insert (wsV RX5 52 RX4 yX4_insertLine wsX4_insertLine) := goodIn_app (goodIn_of _ (by decide +kernel)) ggX5_insert_X4_insertLine
set_option maxRecDepth 100000 in
theorem ggX5_insert_X5_recorded : GoodIn wsX5_insert wsX5_recorded := goodIn_r _ [110, 1, 111, 112, 113, 6, 114, 8, 14, 15, 16, 17, 18, 115, 116, 117, 118, 119, 120] rfl (by decide +kernel)
set_option maxRecDepth 20000 in
theorem gX5_insert_X5_recorded : GoodIn wsX5_insert (wsV RX5 48 RX5 yX5_recorded wsX5_recorded) := goodIn_app (goodIn_of _ (by decide +kernel)) ggX5_insert_X5_recorded
set_option maxRecDepth 100000 in
theorem ggX5_remove_X1_draft : GoodIn wsX5_remove wsX1_draft := goodIn_r _ [7, 8, 9, 10, 11, 6, 12, 13, 14, 15, 16, 17, 18, 19, 20, 21, 22, 23, 24, 25, 26, 27, 28, 29, 30, 31, 32, 33, 34, 35, 36, 37, 38, 39, 40, 41, 42, 43, 44, 45, 46, 47, 48, 49, 50, 51, 52, 53, 145, 146, 147, 148, 149, 150, 151, 152, 153, 154, 155, 156] rfl (by decide +kernel)
set_option maxRecDepth 20000 in
theorem gX5_remove_X1_draft : GoodIn wsX5_remove (wsV RX5 34 RX1 yX1_draft wsX1_draft) := goodIn_app (goodIn_of _ (by decide +kernel)) ggX5_remove_X1_draft
set_option maxRecDepth 100000 in
theorem ggX5_remove_X4_removeLine : GoodIn wsX5_remove wsX4_removeLine := goodIn_r _ [57, 28, 27, 58, 59, 60, 22, 61, 62, 37, 63, 64, 65, 66, 67, 24, 25, 68, 69, 70, 32, 71, 35, 34, 72, 73, 74, 75, 76, 77, 78, 79, 80, 50, 81, 53, 82, 83, 84, 85, 52, 86, 87, 88, 89, 90, 91, 92, 93, 94, 95, 96, 97, 98, 99, 100, 101, 102, 103, 104, 105, 106, 107, 108, 109, 110, 111, 112, 113, 114, 115, 116, 117, 118, 119, 120, 121, 122, 123, 124, 125, 126, 127, 128, 129, 130, 131, 132, 133, 148, 149, 150, 151, 152, 153, 154, 155, 156] rfl (by decide +kernel)
set_option maxRecDepth 20000 in
theorem gX5_remove_X4_removeLine : GoodIn wsX5_remove (wsV RX5 56 RX4 yX4_removeLine wsX4_removeLine) := goodIn_app (goodIn_of _ (by decide +kernel)) ggX5_remove_X4_removeLine
set_option maxRecDepth 100000 in
theorem ggX5_remove_X5_recorded : GoodIn wsX5_remove wsX5_recorded := goodIn_r _ [137, 1, 138, 139, 140, 6, 141, 8, 14, 15, 16, 17, 18, 142, 143, 144, 145, 146, 147] rfl (by decide +kernel)
set_option maxRecDepth 20000 in
theorem gX5_remove_X5_recorded : GoodIn wsX5_remove (wsV RX5 48 RX5 yX5_recorded wsX5_recorded) := goodIn_app (goodIn_of _ (by decide +kernel)) ggX5_remove_X5_recorded
set_option maxRecDepth 100000 in
theorem ggX5_set_X1_draft : GoodIn wsX5_set wsX1_draft := goodIn_r _ [7, 8, 9, 10, 11, 6, 12, 13, 14, 15, 16, 17, 18, 19, 20, 21, 22, 23, 24, 25, 26, 27, 28, 29, 30, 31, 32, 33, 34, 35, 36, 37, 38, 39, 40, 41, 42, 43, 44, 45, 46, 47, 48, 49, 50, 51, 52, 53, 137, 138, 139, 140, 141, 142, 143, 144, 145, 146, 147, 148] rfl (by decide +kernel)
set_option maxRecDepth 20000 in
theorem gX5_set_X1_draft : GoodIn wsX5_set (wsV RX5 34 RX1 yX1_draft wsX1_draft) := goodIn_app (goodIn_of _ (by decide +kernel)) ggX5_set_X1_draft
set_option maxRecDepth 100000 in
theorem ggX5_set_X4_setCell : GoodIn wsX5_set wsX4_setCell := goodIn_r _ [57, 24, 25, 27, 28, 58, 59, 60, 32, 61, 35, 34, 62, 37, 63, 64, 65, 66, 50, 67, 68, 69, 70, 71, 53, 72, 73, 74, 75, 76, 77, 78, 52, 79, 80, 81, 22, 82, 83, 84, 85, 86, 87, 40, 41, 42, 88, 89, 90, 91, 92, 93, 94, 95, 26, 96, 97, 98, 99, 100, 101, 102, 103, 104, 105, 106, 107, 108, 109, 110, 111, 112, 113, 114, 115, 116, 117, 118, 119, 120, 121, 122, 123, 124, 125, 140, 141, 142, 143, 144, 145, 146, 147, 148] rfl (by decide +kernel)
set_option maxRecDepth 20000 in
theorem gX5_set_X4_setCell : GoodIn wsX5_set (wsV RX5 59 RX4 yX4_setCell wsX4_setCell) := goodIn_app (goodIn_of _ (by decide +kernel)) ggX5_set_X4_setCell
set_option maxRecDepth 100000 in
theorem ggX5_set_X5_recorded : GoodIn wsX5_set wsX5_recorded := goodIn_r _ [129, 1, 130, 131, 132, 6, 133, 8, 14, 15, 16, 17, 18, 134, 135, 136, 137, 138, 139] rfl (by decide +kernel)
set_option maxRecDepth 20000 in
theorem gX5_set_X5_recorded : GoodIn wsX5_set (wsV RX5 48 RX5 yX5_recorded wsX5_recorded) := goodIn_app (goodIn_of _ (by decide +kernel)) ggX5_set_X5_recorded
set_option maxRecDepth 100000 in
theorem ggX5_accept_X0_isMade : GoodIn wsX5_accept wsX0_isMade := goodIn_r _ [8, 9, 128, 129] rfl (by decide +kernel)
set_option maxRecDepth 20000 in
theorem gX5_accept_X0_isMade : GoodIn wsX5_accept (wsV RX5 63 RX0 yX0_isMade wsX0_isMade) := goodIn_app (goodIn_of _ (by decide +kernel)) ggX5_accept_X0_isMade
set_option maxRecDepth 100000 in
theorem ggX5_accept_X0_isPending : GoodIn wsX5_accept wsX0_isPending := goodIn_r _ [13, 14, 15, 16, 7, 17, 9, 18, 128, 129] rfl (by decide +kernel)
set_option maxRecDepth 20000 in
theorem gX5_accept_X0_isPending : GoodIn wsX5_accept (wsV RX5 67 RX0 yX0_isPending wsX0_isPending) := goodIn_app (goodIn_of _ (by decide +kernel)) ggX5_accept_X0_isPending
set_option maxRecDepth 100000 in
theorem ggX5_accept_X1_draft : GoodIn wsX5_accept wsX1_draft := goodIn_r _ [23, 24, 25, 26, 27, 22, 28, 29, 30, 31, 32, 33, 34, 35, 36, 37, 38, 39, 40, 41, 42, 43, 44, 45, 46, 47, 48, 49, 50, 51, 52, 53, 54, 55, 56, 57, 58, 59, 60, 61, 62, 63, 64, 65, 7, 66, 18, 9, 130, 131, 132, 123, 124, 125, 126, 127, 133, 134, 128, 129] rfl (by decide +kernel)
set_option maxRecDepth 20000 in
theorem gX5_accept_X1_draft : GoodIn wsX5_accept (wsV RX5 34 RX1 yX1_draft wsX1_draft) := goodIn_app (goodIn_of _ (by decide +kernel)) ggX5_accept_X1_draft
set_option maxRecDepth 100000 in
theorem ggX5_accept_X4_acceptWhole : GoodIn wsX5_accept wsX4_acceptWhole := goodIn_r _ [70, 43, 71, 72, 73, 74, 7, 75, 76, 11, 12, 13, 14, 15, 16, 17, 9, 18, 77, 78, 79, 38, 80, 81, 82, 83, 84, 85, 5, 6, 8, 86, 87, 88, 89, 90, 91, 92, 93, 94, 95, 96, 97, 98, 99, 40, 41, 100, 101, 102, 48, 103, 51, 50, 104, 105, 106, 107, 108, 109, 110, 111, 42, 123, 124, 125, 126, 127, 128, 129, 133, 134] rfl (by decide +kernel)
set_option maxRecDepth 20000 in
theorem gX5_accept_X4_acceptWhole : GoodIn wsX5_accept (wsV RX5 70 RX4 yX4_acceptWhole wsX4_acceptWhole) := goodIn_app (goodIn_of _ (by decide +kernel)) ggX5_accept_X4_acceptWhole
set_option maxRecDepth 100000 in
theorem ggX5_accept_X5_recorded : GoodIn wsX5_accept wsX5_recorded := goodIn_r _ [115, 3, 116, 117, 118, 22, 119, 24, 30, 31, 32, 33, 34, 120, 121, 122, 130, 131, 132] rfl (by decide +kernel)
set_option maxRecDepth 20000 in
theorem gX5_accept_X5_recorded : GoodIn wsX5_accept (wsV RX5 48 RX5 yX5_recorded wsX5_recorded) := goodIn_app (goodIn_of _ (by decide +kernel)) ggX5_accept_X5_recorded
set_option maxRecDepth 100000 in
theorem ggX5_reject_X0_isMade : GoodIn wsX5_reject wsX0_isMade := goodIn_r _ [8, 9, 120, 121] rfl (by decide +kernel)
set_option maxRecDepth 20000 in
theorem gX5_reject_X0_isMade : GoodIn wsX5_reject (wsV RX5 63 RX0 yX0_isMade wsX0_isMade) := goodIn_app (goodIn_of _ (by decide +kernel)) ggX5_reject_X0_isMade
set_option maxRecDepth 100000 in
theorem ggX5_reject_X0_isPending : GoodIn wsX5_reject wsX0_isPending := goodIn_r _ [13, 14, 15, 16, 7, 17, 9, 18, 120, 121] rfl (by decide +kernel)
set_option maxRecDepth 20000 in
theorem gX5_reject_X0_isPending : GoodIn wsX5_reject (wsV RX5 67 RX0 yX0_isPending wsX0_isPending) := goodIn_app (goodIn_of _ (by decide +kernel)) ggX5_reject_X0_isPending
set_option maxRecDepth 100000 in
theorem ggX5_reject_X1_draft : GoodIn wsX5_reject wsX1_draft := goodIn_r _ [23, 24, 25, 26, 27, 22, 28, 29, 30, 31, 32, 33, 34, 35, 36, 37, 38, 39, 40, 41, 42, 43, 44, 45, 46, 47, 48, 49, 50, 51, 52, 53, 54, 55, 56, 57, 58, 59, 60, 61, 62, 63, 64, 65, 7, 66, 18, 9, 122, 123, 124, 115, 116, 117, 118, 119, 125, 126, 120, 121] rfl (by decide +kernel)
set_option maxRecDepth 20000 in
theorem gX5_reject_X1_draft : GoodIn wsX5_reject (wsV RX5 34 RX1 yX1_draft wsX1_draft) := goodIn_app (goodIn_of _ (by decide +kernel)) ggX5_reject_X1_draft
set_option maxRecDepth 100000 in
theorem ggX5_reject_X4_rejectWhole : GoodIn wsX5_reject wsX4_rejectWhole := goodIn_r _ [70, 43, 71, 72, 73, 74, 7, 75, 76, 11, 12, 13, 14, 15, 16, 17, 9, 18, 77, 78, 79, 80, 81, 5, 6, 8, 82, 83, 84, 85, 38, 86, 87, 88, 89, 90, 91, 92, 93, 94, 95, 40, 41, 96, 97, 98, 48, 99, 51, 50, 100, 101, 102, 103, 115, 116, 117, 118, 119, 120, 121, 125, 126] rfl (by decide +kernel)
set_option maxRecDepth 20000 in
theorem gX5_reject_X4_rejectWhole : GoodIn wsX5_reject (wsV RX5 73 RX4 yX4_rejectWhole wsX4_rejectWhole) := goodIn_app (goodIn_of _ (by decide +kernel)) ggX5_reject_X4_rejectWhole
set_option maxRecDepth 100000 in
theorem ggX5_reject_X5_recorded : GoodIn wsX5_reject wsX5_recorded := goodIn_r _ [107, 3, 108, 109, 110, 22, 111, 24, 30, 31, 32, 33, 34, 112, 113, 114, 122, 123, 124] rfl (by decide +kernel)
set_option maxRecDepth 20000 in
theorem gX5_reject_X5_recorded : GoodIn wsX5_reject (wsV RX5 48 RX5 yX5_recorded wsX5_recorded) := goodIn_app (goodIn_of _ (by decide +kernel)) ggX5_reject_X5_recorded
set_option maxRecDepth 100000 in
theorem ggX5_settle_X5_isAuthor : GoodIn wsX5_settle wsX5_isAuthor := goodIn_r _ [7] rfl (by decide +kernel)
set_option maxRecDepth 20000 in
theorem gX5_settle_X5_isAuthor : GoodIn wsX5_settle (va_wsS RX5 76 yX5_isAuthor wsX5_isAuthor) := goodIn_app (goodIn_of _ (by decide +kernel)) ggX5_settle_X5_isAuthor
set_option maxRecDepth 100000 in
theorem ggX5_settle_X0_inState : GoodIn wsX5_settle wsX0_inState := goodIn_r _ [12, 13, 14, 15, 16, 11, 17, 18, 142, 143] rfl (by decide +kernel)
set_option maxRecDepth 20000 in
theorem gX5_settle_X0_inState : GoodIn wsX5_settle (wsV RX5 42 RX0 yX0_inState wsX0_inState) := goodIn_app (goodIn_of _ (by decide +kernel)) ggX5_settle_X0_inState
set_option maxRecDepth 100000 in
theorem ggX5_settle_X1_draft : GoodIn wsX5_settle wsX1_draft := goodIn_r _ [23, 24, 25, 26, 27, 22, 28, 29, 30, 31, 32, 33, 34, 35, 36, 37, 38, 39, 40, 41, 42, 43, 44, 45, 46, 47, 48, 49, 50, 51, 52, 6, 53, 54, 55, 56, 57, 58, 59, 60, 61, 62, 63, 64, 11, 65, 18, 13, 144, 145, 146, 137, 138, 139, 140, 141, 147, 148, 142, 143] rfl (by decide +kernel)
set_option maxRecDepth 20000 in
theorem gX5_settle_X1_draft : GoodIn wsX5_settle (wsV RX5 34 RX1 yX1_draft wsX1_draft) := goodIn_app (goodIn_of _ (by decide +kernel)) ggX5_settle_X1_draft
set_option maxRecDepth 100000 in
theorem ggX5_settle_X4_settleAll : GoodIn wsX5_settle wsX4_settleAll := goodIn_r _ [69, 43, 70, 71, 15, 16, 11, 17, 13, 18, 72, 73, 74, 75, 14, 76, 77, 78, 38, 79, 80, 81, 82, 83, 84, 85, 86, 87, 88, 89, 90, 91, 92, 93, 94, 95, 96, 97, 98, 99, 100, 101, 102, 103, 104, 105, 106, 107, 108, 109, 40, 41, 110, 111, 112, 48, 113, 51, 50, 114, 115, 116, 117, 118, 119, 120, 121, 42, 122, 123, 124, 125, 137, 138, 139, 140, 141, 142, 143, 147, 148] rfl (by decide +kernel)
set_option maxRecDepth 20000 in
theorem gX5_settle_X4_settleAll : GoodIn wsX5_settle (wsV RX5 79 RX4 yX4_settleAll wsX4_settleAll) := goodIn_app (goodIn_of _ (by decide +kernel)) ggX5_settle_X4_settleAll
set_option maxRecDepth 100000 in
theorem ggX5_settle_X5_recorded : GoodIn wsX5_settle wsX5_recorded := goodIn_r _ [129, 3, 130, 131, 132, 22, 133, 24, 30, 31, 32, 33, 34, 134, 135, 136, 144, 145, 146] rfl (by decide +kernel)
set_option maxRecDepth 20000 in
theorem gX5_settle_X5_recorded : GoodIn wsX5_settle (wsV RX5 48 RX5 yX5_recorded wsX5_recorded) := goodIn_app (goodIn_of _ (by decide +kernel)) ggX5_settle_X5_recorded
set_option maxRecDepth 100000 in
theorem ggX5_type_X3_append : GoodIn wsX5_type wsX3_append := goodIn_r _ [6, 7, 8, 12, 13, 14, 15, 16, 17, 18, 19] rfl (by decide +kernel)
set_option maxRecDepth 20000 in
theorem gX5_type_X3_append : GoodIn wsX5_type (wsV RX5 83 RX3 yX3_append wsX3_append) := goodIn_app (goodIn_of _ (by decide +kernel)) ggX5_type_X3_append
set_option maxRecDepth 100000 in
theorem ggX5_run_X5_isAuthor : GoodIn wsX5_run wsX5_isAuthor := goodIn_r _ [7] rfl (by decide +kernel)
set_option maxRecDepth 20000 in
theorem gX5_run_X5_isAuthor : GoodIn wsX5_run (va_wsS RX5 76 yX5_isAuthor wsX5_isAuthor) := goodIn_app (goodIn_of _ (by decide +kernel)) ggX5_run_X5_isAuthor
set_option maxRecDepth 100000 in
theorem ggX5_run_X3_fault : GoodIn wsX5_run wsX3_fault := goodIn_r _ [12, 13, 14, 15, 16, 17, 11, 18, 19, 20, 21, 22, 23, 24, 25, 26, 27, 28, 29, 30, 31, 32, 33, 34, 35, 36, 37, 38, 39, 40, 41, 42, 43, 44, 45, 46, 47, 48, 49, 50, 51, 52, 53, 54, 55, 56, 57, 58, 59, 267, 268, 269, 270, 271, 272, 273, 274] rfl (by decide +kernel)
set_option maxRecDepth 20000 in
theorem gX5_run_X3_fault : GoodIn wsX5_run (wsV RX5 91 RX3 yX3_fault wsX3_fault) := goodIn_app (goodIn_of _ (by decide +kernel)) ggX5_run_X3_fault
set_option maxRecDepth 100000 in
theorem ggX5_run_X1_draft : GoodIn wsX5_run wsX1_draft := goodIn_r _ [64, 65, 66, 67, 68, 63, 69, 70, 71, 72, 73, 74, 75, 76, 77, 78, 79, 80, 81, 82, 83, 84, 85, 86, 87, 88, 89, 90, 91, 92, 93, 6, 94, 95, 96, 97, 98, 99, 100, 101, 102, 103, 104, 105, 106, 107, 108, 109, 275, 276, 277, 278, 279, 280, 281, 282, 283, 284, 285, 286] rfl (by decide +kernel)
set_option maxRecDepth 20000 in
theorem gX5_run_X1_draft : GoodIn wsX5_run (wsV RX5 34 RX1 yX1_draft wsX1_draft) := goodIn_app (goodIn_of _ (by decide +kernel)) ggX5_run_X1_draft
set_option maxRecDepth 100000 in
theorem ggX5_run_X5_carryOut : GoodIn wsX5_run wsX5_carryOut := goodIn_r _ [113, 1, 114, 16, 17, 11, 18, 13, 115, 20, 21, 22, 23, 24, 25, 26, 27, 28, 29, 30, 31, 14, 32, 33, 34, 35, 36, 37, 38, 39, 40, 41, 42, 43, 44, 45, 46, 47, 48, 49, 50, 51, 52, 53, 54, 55, 56, 57, 58, 59, 116, 117, 118, 6, 119, 120, 3, 121, 122, 123, 124, 125, 126, 127, 79, 128, 129, 85, 84, 5, 7, 130, 131, 132, 133, 134, 135, 81, 82, 136, 137, 138, 89, 139, 92, 91, 140, 141, 142, 106, 143, 109, 144, 145, 146, 147, 148, 149, 150, 151, 152, 153, 154, 155, 83, 156, 157, 158, 159, 160, 161, 162, 163, 164, 165, 166, 167, 168, 169, 170, 171, 108, 172, 173, 174, 175, 176, 177, 178, 179, 180, 181, 182, 183, 184, 185, 186, 187, 188, 189, 190, 191, 192, 193, 194, 195, 196, 197, 198, 199, 200, 201, 202, 203, 204, 205, 206, 207, 208, 209, 210, 211, 212, 213, 214, 215, 216, 217, 218, 219, 220, 221, 222, 223, 224, 225, 226, 227, 228, 229, 230, 231, 232, 233, 234, 235, 236, 237, 96, 97, 98, 238, 239, 240, 241, 242, 243, 244, 245, 246, 247, 248, 249, 250, 251, 252, 253, 254, 255, 264, 265, 266, 267, 268, 269, 270, 271, 272, 273, 274, 283, 284, 278, 279, 280, 281, 282, 285, 286] rfl (by decide +kernel)
set_option maxRecDepth 20000 in
theorem gX5_run_X5_carryOut : GoodIn wsX5_run (wsV RX5 95 RX5 yX5_carryOut wsX5_carryOut) := goodIn_app (goodIn_of _ (by decide +kernel)) ggX5_run_X5_carryOut
set_option maxRecDepth 100000 in
theorem ggX5_run_X5_recorded : GoodIn wsX5_run wsX5_recorded := goodIn_r _ [259, 2, 260, 261, 262, 63, 263, 65, 71, 72, 73, 74, 75, 264, 265, 266, 275, 276, 277] rfl (by decide +kernel)
set_option maxRecDepth 20000 in
theorem gX5_run_X5_recorded : GoodIn wsX5_run (wsV RX5 48 RX5 yX5_recorded wsX5_recorded) := goodIn_app (goodIn_of _ (by decide +kernel)) ggX5_run_X5_recorded
set_option maxRecDepth 100000 in
theorem ggX5_undo_X1_restore : GoodIn wsX5_undo wsX1_restore := goodIn_r _ [7, 8, 9, 10, 11, 6, 12, 13, 14, 15, 16, 17, 18, 19, 20, 21, 22, 23, 24, 25, 26, 27, 28, 29, 30, 31, 32, 33, 34, 35, 36, 37, 38, 39, 40, 41, 42, 43, 44, 45, 46, 47, 48, 49, 50, 51, 52, 53, 57, 58, 59, 60, 61, 62, 63, 64, 65, 66, 67, 68] rfl (by decide +kernel)
set_option maxRecDepth 20000 in
theorem gX5_undo_X1_restore : GoodIn wsX5_undo (wsV RX5 98 RX1 yX1_restore wsX1_restore) := goodIn_app (goodIn_of _ (by decide +kernel)) ggX5_undo_X1_restore
set_option maxRecDepth 100000 in
theorem ggX5_size_X5_isView : GoodIn wsX5_size wsX5_isView := goodIn_r _ [5] rfl (by decide +kernel)
set_option maxRecDepth 20000 in
theorem gX5_size_X5_isView : GoodIn wsX5_size (va_wsS RX5 102 yX5_isView wsX5_isView) := goodIn_app (goodIn_of _ (by decide +kernel)) ggX5_size_X5_isView
set_option maxRecDepth 100000 in
theorem ggX5_size_X5_isAxis : GoodIn wsX5_size wsX5_isAxis := goodIn_r _ [8] rfl (by decide +kernel)
set_option maxRecDepth 20000 in
theorem gX5_size_X5_isAxis : GoodIn wsX5_size (va_wsS RX5 105 yX5_isAxis wsX5_isAxis) := goodIn_app (goodIn_of _ (by decide +kernel)) ggX5_size_X5_isAxis
set_option maxRecDepth 100000 in
theorem ggX5_size_X4_shownLines : GoodIn wsX5_size wsX4_shownLines := goodIn_r _ [13, 14, 15, 16, 17, 12, 18, 19, 20, 21, 22, 23, 24, 25, 26, 27, 28, 29, 30, 31, 32, 33, 34, 35, 36, 37, 38, 39, 40, 41, 42, 43, 44, 45, 46, 47, 48, 49, 50, 51, 52, 53, 54, 58, 59, 60, 61, 62, 63, 64, 65, 66] rfl (by decide +kernel)
set_option maxRecDepth 20000 in
theorem gX5_size_X4_shownLines : GoodIn wsX5_size (wsV RX5 108 RX4 yX4_shownLines wsX4_shownLines) := goodIn_app (goodIn_of _ (by decide +kernel)) ggX5_size_X4_shownLines
set_option maxRecDepth 100000 in
theorem ggX5_cell_X4_slotInView : GoodIn wsX5_cell wsX4_slotInView := goodIn_r _ [6, 7, 8, 9, 10, 5, 11, 12, 13, 14, 15, 16, 17, 18, 19, 20, 21, 22, 23, 24, 25, 26, 27, 28, 29, 30, 31, 32, 33, 34, 35, 36, 37, 38, 39, 40, 41, 42, 43, 44, 45, 46, 47, 77, 78, 79, 80, 81, 82, 83, 84, 85] rfl (by decide +kernel)
set_option maxRecDepth 20000 in
theorem gX5_cell_X4_slotInView : GoodIn wsX5_cell (wsV RX5 111 RX4 yX4_slotInView wsX4_slotInView) := goodIn_app (goodIn_of _ (by decide +kernel)) ggX5_cell_X4_slotInView
set_option maxRecDepth 100000 in
theorem ggX5_cell_X4_valueInView : GoodIn wsX5_cell wsX4_valueInView := goodIn_r _ [51, 52, 53, 54, 5, 55, 56, 57, 58, 59, 60, 25, 61, 62, 63, 29, 64, 35, 65, 66, 67, 68, 69, 70, 71, 72, 43, 73, 40, 41, 42, 79, 80, 81, 82, 83, 84, 85] rfl (by decide +kernel)
set_option maxRecDepth 20000 in
theorem gX5_cell_X4_valueInView : GoodIn wsX5_cell (wsV RX5 114 RX4 yX4_valueInView wsX4_valueInView) := goodIn_app (goodIn_of _ (by decide +kernel)) ggX5_cell_X4_valueInView
set_option maxRecDepth 100000 in
theorem ggX5_line_X4_slotAt : GoodIn wsX5_line wsX4_slotAt := goodIn_r _ [7, 8, 9, 10, 11, 12, 13, 6, 14, 15, 16, 17, 18, 19, 20, 21, 22, 23, 69, 70, 71, 72, 73, 74, 75] rfl (by decide +kernel)
set_option maxRecDepth 20000 in
theorem gX5_line_X4_slotAt : GoodIn wsX5_line (wsV RX5 117 RX4 yX4_slotAt wsX4_slotAt) := goodIn_app (goodIn_of _ (by decide +kernel)) ggX5_line_X4_slotAt
set_option maxRecDepth 100000 in
theorem ggX5_line_X0_insertionOf : GoodIn wsX5_line wsX0_insertionOf := goodIn_r _ [28, 29, 30, 31, 27, 32, 33, 34, 35, 36, 37, 38, 39, 40, 41, 76, 77] rfl (by decide +kernel)
set_option maxRecDepth 20000 in
theorem gX5_line_X0_insertionOf : GoodIn wsX5_line (wsV RX5 120 RX0 yX0_insertionOf wsX0_insertionOf) := goodIn_app (goodIn_of _ (by decide +kernel)) ggX5_line_X0_insertionOf
set_option maxRecDepth 100000 in
theorem ggX5_line_X0_removalOf : GoodIn wsX5_line wsX0_removalOf := goodIn_r _ [45, 29, 30, 31, 27, 32, 33, 34, 35, 36, 37, 38, 39, 40, 41, 76, 77] rfl (by decide +kernel)
set_option maxRecDepth 20000 in
theorem gX5_line_X0_removalOf : GoodIn wsX5_line (wsV RX5 123 RX0 yX0_removalOf wsX0_removalOf) := goodIn_app (goodIn_of _ (by decide +kernel)) ggX5_line_X0_removalOf
set_option maxRecDepth 100000 in
theorem ggX5_line_X4_placeInView : GoodIn wsX5_line wsX4_placeInView := goodIn_r _ [49, 50, 11, 12, 13, 6, 14, 15, 16, 17, 18, 19, 20, 21, 22, 23, 51, 52, 53, 54, 55, 56, 43, 44, 27, 45, 29, 30, 31, 32, 33, 34, 35, 36, 37, 38, 39, 40, 41, 57, 25, 26, 28, 74, 75, 69, 70, 71, 72, 73, 76, 77] rfl (by decide +kernel)
set_option maxRecDepth 20000 in
theorem gX5_line_X4_placeInView : GoodIn wsX5_line (wsV RX5 126 RX4 yX4_placeInView wsX4_placeInView) := goodIn_app (goodIn_of _ (by decide +kernel)) ggX5_line_X4_placeInView
set_option maxRecDepth 100000 in
theorem ggX5_line_X0_settingsOfLine : GoodIn wsX5_line wsX0_settingsOfLine := goodIn_r _ [61, 33, 37, 38, 39, 27, 40, 41, 62, 63, 64, 65, 76, 77] rfl (by decide +kernel)
set_option maxRecDepth 20000 in
theorem gX5_line_X0_settingsOfLine : GoodIn wsX5_line (wsV RX5 129 RX0 yX0_settingsOfLine wsX0_settingsOfLine) := goodIn_app (goodIn_of _ (by decide +kernel)) ggX5_line_X0_settingsOfLine
set_option maxRecDepth 100000 in
theorem ggX5_setting_X4_slotAt : GoodIn wsX5_setting wsX4_slotAt := goodIn_r _ [7, 8, 9, 10, 11, 12, 13, 6, 14, 15, 16, 17, 18, 19, 20, 21, 22, 23, 38, 39, 40, 41, 42, 43, 44] rfl (by decide +kernel)
set_option maxRecDepth 20000 in
theorem gX5_setting_X4_slotAt : GoodIn wsX5_setting (wsV RX5 117 RX4 yX4_slotAt wsX4_slotAt) := goodIn_app (goodIn_of _ (by decide +kernel)) ggX5_setting_X4_slotAt
set_option maxRecDepth 100000 in
theorem ggX5_setting_X0_settingAt : GoodIn wsX5_setting wsX0_settingAt := goodIn_r _ [28, 29, 30, 31, 32, 27, 33, 34, 45, 46] rfl (by decide +kernel)
set_option maxRecDepth 20000 in
theorem gX5_setting_X0_settingAt : GoodIn wsX5_setting (wsV RX5 132 RX0 yX0_settingAt wsX0_settingAt) := goodIn_app (goodIn_of _ (by decide +kernel)) ggX5_setting_X0_settingAt
set_option maxRecDepth 100000 in
theorem ggX5_change_X0_isMade : GoodIn wsX5_change wsX0_isMade := goodIn_r _ [9, 10, 77, 78] rfl (by decide +kernel)
set_option maxRecDepth 20000 in
theorem gX5_change_X0_isMade : GoodIn wsX5_change (wsV RX5 63 RX0 yX0_isMade wsX0_isMade) := goodIn_app (goodIn_of _ (by decide +kernel)) ggX5_change_X0_isMade
set_option maxRecDepth 100000 in
theorem ggX5_change_X0_fact : GoodIn wsX5_change wsX0_fact := goodIn_r _ [14, 10, 15, 77, 78] rfl (by decide +kernel)
set_option maxRecDepth 20000 in
theorem gX5_change_X0_fact : GoodIn wsX5_change (wsV RX5 135 RX0 yX0_fact wsX0_fact) := goodIn_app (goodIn_of _ (by decide +kernel)) ggX5_change_X0_fact
set_option maxRecDepth 100000 in
theorem ggX5_change_X2_placeOf : GoodIn wsX5_change wsX2_placeOf := goodIn_r _ [20, 21, 22, 79, 80] rfl (by decide +kernel)
set_option maxRecDepth 20000 in
theorem gX5_change_X2_placeOf : GoodIn wsX5_change (wsV RX5 142 RX2 yX2_placeOf wsX2_placeOf) := goodIn_app (goodIn_of _ (by decide +kernel)) ggX5_change_X2_placeOf
set_option maxRecDepth 100000 in
theorem ggX5_change_X4_valueBelow : GoodIn wsX5_change wsX4_valueBelow := goodIn_r _ [27, 28, 29, 12, 13, 8, 14, 10, 15, 30, 31, 32, 33, 34, 35, 36, 37, 26, 38, 39, 40, 41, 42, 43, 44, 45, 46, 47, 48, 49, 50, 51, 52, 53, 54, 55, 72, 73, 74, 75, 76, 77, 78] rfl (by decide +kernel)
set_option maxRecDepth 20000 in
theorem gX5_change_X4_valueBelow : GoodIn wsX5_change (wsV RX5 150 RX4 yX4_valueBelow wsX4_valueBelow) := goodIn_app (goodIn_of _ (by decide +kernel)) ggX5_change_X4_valueBelow
set_option maxRecDepth 100000 in
theorem ggX5_change_X0_supportsOf : GoodIn wsX5_change wsX0_supportsOf := goodIn_r _ [59, 10, 60, 61, 62, 8, 63, 64, 31, 32, 33, 34, 12, 13, 14, 15, 77, 78] rfl (by decide +kernel)
set_option maxRecDepth 20000 in
theorem gX5_change_X0_supportsOf : GoodIn wsX5_change (wsV RX5 153 RX0 yX0_supportsOf wsX0_supportsOf) := goodIn_app (goodIn_of _ (by decide +kernel)) ggX5_change_X0_supportsOf
set_option maxRecDepth 100000 in
theorem ggX5_change_X0_dependentsOf : GoodIn wsX5_change wsX0_dependentsOf := goodIn_r _ [68, 10, 60, 61, 62, 8, 63, 64, 31, 32, 33, 34, 12, 13, 14, 15, 77, 78] rfl (by decide +kernel)
set_option maxRecDepth 20000 in
theorem gX5_change_X0_dependentsOf : GoodIn wsX5_change (wsV RX5 156 RX0 yX0_dependentsOf wsX0_dependentsOf) := goodIn_app (goodIn_of _ (by decide +kernel)) ggX5_change_X0_dependentsOf
set_option maxRecDepth 100000 in
theorem ggX5_restsOn_X0_isMade : GoodIn wsX5_restsOn wsX0_isMade := goodIn_r _ [7, 8, 30, 31] rfl (by decide +kernel)
set_option maxRecDepth 20000 in
theorem gX5_restsOn_X0_isMade : GoodIn wsX5_restsOn (wsV RX5 63 RX0 yX0_isMade wsX0_isMade) := goodIn_app (goodIn_of _ (by decide +kernel)) ggX5_restsOn_X0_isMade
set_option maxRecDepth 100000 in
theorem ggX5_restsOn_X0_rests : GoodIn wsX5_restsOn wsX0_rests := goodIn_r _ [12, 13, 14, 15, 6, 16, 17, 18, 19, 20, 8, 21, 30, 31] rfl (by decide +kernel)
set_option maxRecDepth 20000 in
theorem gX5_restsOn_X0_rests : GoodIn wsX5_restsOn (wsV RX5 159 RX0 yX0_rests wsX0_rests) := goodIn_app (goodIn_of _ (by decide +kernel)) ggX5_restsOn_X0_rests
set_option maxRecDepth 100000 in
theorem ggX5_pending_X4_pendingInReadingOrder : GoodIn wsX5_pending wsX4_pendingInReadingOrder := goodIn_r _ [6, 7, 8, 9, 5, 10, 11, 12, 13, 14, 15, 16, 17, 18, 19, 20, 21, 22, 23, 24, 25, 26, 27, 28, 29, 30, 31, 32, 33, 34, 35, 36, 37, 38, 39, 40, 41, 42, 43, 44, 45, 46, 47, 48, 49, 50, 51, 52, 53, 54, 55, 56, 57, 58, 59, 60, 61, 62, 63, 64, 65, 66, 67, 68, 69, 70, 71, 72, 73, 74, 75, 79, 80, 81, 82, 83, 84, 85, 86, 87] rfl (by decide +kernel)
set_option maxRecDepth 20000 in
theorem gX5_pending_X4_pendingInReadingOrder : GoodIn wsX5_pending (wsV RX5 163 RX4 yX4_pendingInReadingOrder wsX4_pendingInReadingOrder) := goodIn_app (goodIn_of _ (by decide +kernel)) ggX5_pending_X4_pendingInReadingOrder
set_option maxRecDepth 100000 in
theorem ggX5_author_X5_isAuthor : GoodIn wsX5_author wsX5_isAuthor := goodIn_r _ [6] rfl (by decide +kernel)
set_option maxRecDepth 20000 in
theorem gX5_author_X5_isAuthor : GoodIn wsX5_author (va_wsS RX5 76 yX5_isAuthor wsX5_isAuthor) := goodIn_app (goodIn_of _ (by decide +kernel)) ggX5_author_X5_isAuthor
set_option maxRecDepth 100000 in
theorem ggX5_author_X0_inState : GoodIn wsX5_author wsX0_inState := goodIn_r _ [11, 12, 13, 14, 15, 10, 16, 17, 26, 27] rfl (by decide +kernel)
set_option maxRecDepth 20000 in
theorem gX5_author_X0_inState : GoodIn wsX5_author (wsV RX5 42 RX0 yX0_inState wsX0_inState) := goodIn_app (goodIn_of _ (by decide +kernel)) ggX5_author_X0_inState
set_option maxRecDepth 100000 in
theorem ggX5_sum_X5_isView : GoodIn wsX5_sum wsX5_isView := goodIn_r _ [5] rfl (by decide +kernel)
set_option maxRecDepth 20000 in
theorem gX5_sum_X5_isView : GoodIn wsX5_sum (va_wsS RX5 102 yX5_isView wsX5_isView) := goodIn_app (goodIn_of _ (by decide +kernel)) ggX5_sum_X5_isView
set_option maxRecDepth 100000 in
theorem ggX5_sum_X4_total : GoodIn wsX5_sum wsX4_total := goodIn_r _ [10, 11, 12, 13, 14, 15, 16, 17, 18, 19, 20, 21, 22, 9, 23, 24, 25, 26, 27, 28, 29, 30, 31, 32, 33, 34, 35, 36, 37, 38, 39, 40, 41, 42, 43, 44, 45, 46, 47, 48, 49, 50, 51, 52, 53, 54, 55, 56, 57, 58, 59, 60, 61, 62, 63, 64, 65, 66, 67, 68, 69, 70, 71, 72, 73, 74, 75, 76, 77, 81, 82, 83, 84, 85, 86, 87, 88, 89] rfl (by decide +kernel)
set_option maxRecDepth 20000 in
theorem gX5_sum_X4_total : GoodIn wsX5_sum (wsV RX5 166 RX4 yX4_total wsX4_total) := goodIn_app (goodIn_of _ (by decide +kernel)) ggX5_sum_X4_total
set_option maxRecDepth 100000 in
theorem ggX5_count_X0_inState : GoodIn wsX5_count wsX0_inState := goodIn_r _ [13, 14, 15, 16, 17, 12, 18, 19, 36, 37] rfl (by decide +kernel)
set_option maxRecDepth 20000 in
theorem gX5_count_X0_inState : GoodIn wsX5_count (wsV RX5 42 RX0 yX0_inState wsX0_inState) := goodIn_app (goodIn_of _ (by decide +kernel)) ggX5_count_X0_inState
set_option maxRecDepth 100000 in
theorem ggX5_count_X0_pendingOf : GoodIn wsX5_count wsX0_pendingOf := goodIn_r _ [23, 14, 15, 16, 17, 12, 18, 19, 24, 25, 26, 27, 36, 37] rfl (by decide +kernel)
set_option maxRecDepth 20000 in
theorem gX5_count_X0_pendingOf : GoodIn wsX5_count (wsV RX5 172 RX0 yX0_pendingOf wsX0_pendingOf) := goodIn_app (goodIn_of _ (by decide +kernel)) ggX5_count_X0_pendingOf
set_option maxRecDepth 100000 in
theorem ggX5_recorded_X1_keep : GoodIn wsX5_recorded wsX1_keep := goodIn_r _ [6, 7, 8, 9, 10, 11, 12, 16, 17, 18] rfl (by decide +kernel)
set_option maxRecDepth 20000 in
theorem gX5_recorded_X1_keep : GoodIn wsX5_recorded (wsV RX5 178 RX1 yX1_keep wsX1_keep) := goodIn_app (goodIn_of _ (by decide +kernel)) ggX5_recorded_X1_keep
set_option maxRecDepth 100000 in
theorem ggX5_carryOut_X3_rewind : GoodIn wsX5_carryOut wsX3_rewind := goodIn_r _ [6, 7, 212, 213, 214, 215, 216, 217, 218, 219] rfl (by decide +kernel)
set_option maxRecDepth 20000 in
theorem gX5_carryOut_X3_rewind : GoodIn wsX5_carryOut (wsV RX5 181 RX3 yX3_rewind wsX3_rewind) := goodIn_app (goodIn_of _ (by decide +kernel)) ggX5_carryOut_X3_rewind
set_option maxRecDepth 100000 in
theorem ggX5_carryOut_X3_nextOrder : GoodIn wsX5_carryOut wsX3_nextOrder := goodIn_r _ [11, 7, 12, 13, 14, 15, 5, 16, 17, 18, 19, 20, 21, 22, 23, 24, 25, 26, 27, 28, 29, 30, 31, 32, 33, 34, 35, 36, 37, 38, 39, 40, 41, 42, 43, 44, 45, 46, 47, 48, 49, 212, 213, 214, 215, 216, 217, 218, 219] rfl (by decide +kernel)
set_option maxRecDepth 20000 in
theorem gX5_carryOut_X3_nextOrder : GoodIn wsX5_carryOut (wsV RX5 184 RX3 yX3_nextOrder wsX3_nextOrder) := goodIn_app (goodIn_of _ (by decide +kernel)) ggX5_carryOut_X3_nextOrder
set_option maxRecDepth 100000 in
theorem ggX5_carryOut_X5_obey : GoodIn wsX5_carryOut wsX5_obey := goodIn_r _ [54, 1, 55, 56, 57, 58, 59, 60, 61, 62, 63, 64, 65, 66, 67, 68, 69, 53, 70, 71, 72, 73, 74, 75, 76, 77, 78, 79, 80, 81, 82, 83, 84, 85, 86, 87, 88, 89, 90, 91, 92, 93, 94, 95, 96, 97, 98, 99, 100, 101, 102, 103, 104, 105, 106, 107, 108, 109, 110, 111, 112, 113, 114, 115, 116, 117, 118, 119, 120, 121, 122, 123, 124, 125, 126, 127, 128, 129, 130, 131, 132, 133, 134, 135, 136, 137, 138, 139, 140, 141, 142, 143, 144, 145, 146, 147, 148, 149, 150, 151, 152, 153, 154, 155, 156, 157, 158, 159, 160, 161, 162, 163, 164, 165, 166, 167, 168, 169, 170, 171, 172, 173, 174, 175, 176, 177, 178, 179, 180, 181, 182, 183, 184, 185, 186, 187, 188, 189, 190, 191, 192, 193, 194, 195, 196, 197, 198, 199, 200, 201, 202, 203, 204, 205, 206, 207, 208, 209, 210, 211, 212, 213, 214, 215, 216, 217, 218, 219, 220, 221, 222, 223, 224, 225, 226, 227, 228] rfl (by decide +kernel)
set_option maxRecDepth 20000 in
theorem gX5_carryOut_X5_obey : GoodIn wsX5_carryOut (wsV RX5 188 RX5 yX5_obey wsX5_obey) := goodIn_app (goodIn_of _ (by decide +kernel)) ggX5_carryOut_X5_obey
set_option maxRecDepth 100000 in
theorem ggX5_obey_X4_insertLine : GoodIn wsX5_obey wsX4_insertLine := goodIn_r _ [12, 13, 14, 15, 16, 17, 18, 19, 20, 21, 22, 23, 11, 24, 25, 26, 27, 28, 29, 30, 31, 32, 33, 34, 35, 36, 37, 38, 39, 40, 41, 42, 43, 44, 45, 46, 47, 48, 49, 50, 51, 52, 53, 54, 55, 56, 57, 58, 59, 60, 61, 62, 63, 64, 65, 66, 67, 68, 69, 70, 71, 72, 73, 168, 169, 170, 171, 172, 173, 174, 175, 176] rfl (by decide +kernel)
set_option maxRecDepth 20000 in
theorem gX5_obey_X4_insertLine : GoodIn wsX5_obey (wsV RX5 52 RX4 yX4_insertLine wsX4_insertLine) := goodIn_app (goodIn_of _ (by decide +kernel)) ggX5_obey_X4_insertLine
set_option maxRecDepth 100000 in
theorem ggX5_obey_X4_removeLine : GoodIn wsX5_obey wsX4_removeLine := goodIn_r _ [77, 14, 15, 78, 79, 80, 11, 81, 19, 17, 20, 21, 22, 23, 24, 25, 26, 82, 83, 84, 30, 85, 32, 33, 16, 18, 86, 87, 88, 89, 90, 91, 92, 37, 93, 39, 94, 95, 96, 97, 69, 98, 99, 100, 101, 65, 66, 67, 68, 70, 71, 72, 73, 102, 103, 104, 105, 106, 107, 108, 109, 110, 111, 112, 113, 114, 115, 116, 117, 57, 58, 59, 118, 119, 120, 121, 122, 53, 54, 55, 56, 60, 61, 62, 63, 64, 35, 36, 38, 170, 171, 172, 173, 174, 168, 169, 175, 176] rfl (by decide +kernel)
set_option maxRecDepth 20000 in
theorem gX5_obey_X4_removeLine : GoodIn wsX5_obey (wsV RX5 56 RX4 yX4_removeLine wsX4_removeLine) := goodIn_app (goodIn_of _ (by decide +kernel)) ggX5_obey_X4_removeLine
set_option maxRecDepth 100000 in
theorem ggX5_obey_X4_setCell : GoodIn wsX5_obey wsX4_setCell := goodIn_r _ [126, 25, 26, 15, 14, 82, 83, 84, 30, 85, 32, 33, 16, 17, 18, 110, 111, 112, 37, 113, 114, 115, 116, 117, 39, 57, 58, 59, 94, 95, 96, 97, 69, 127, 128, 129, 11, 130, 131, 132, 133, 134, 135, 136, 137, 138, 139, 140, 141, 142, 143, 144, 145, 146, 52, 122, 147, 148, 149, 150, 65, 66, 67, 68, 70, 71, 72, 73, 48, 49, 50, 51, 151, 152, 153, 154, 155, 156, 61, 62, 63, 64, 35, 36, 38, 170, 171, 172, 173, 174, 168, 169, 175, 176] rfl (by decide +kernel)
set_option maxRecDepth 20000 in
theorem gX5_obey_X4_setCell : GoodIn wsX5_obey (wsV RX5 59 RX4 yX4_setCell wsX4_setCell) := goodIn_app (goodIn_of _ (by decide +kernel)) ggX5_obey_X4_setCell
