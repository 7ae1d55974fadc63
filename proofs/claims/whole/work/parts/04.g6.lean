set_option maxRecDepth 100000 in
theorem ggX6_nameAt_X6_slot : GoodIn wsX6_nameAt wsX6_slot := goodIn_r _ [6, 1, 7, 8, 9, 10, 11, 12, 13, 14, 15, 16] rfl (by decide +kernel)
set_option maxRecDepth 20000 in
theorem gX6_nameAt_X6_slot : GoodIn wsX6_nameAt (wsV RX6 30 RX6 yX6_slot wsX6_slot) := goodIn_app (goodIn_of _ (by decide +kernel)) ggX6_nameAt_X6_slot
set_option maxRecDepth 100000 in
theorem ggX6_placeOf_X6_many : GoodIn wsX6_placeOf wsX6_many := goodIn_r _ [5, 6, 15, 16, 17, 18, 19, 20, 21, 22, 23, 24] rfl (by decide +kernel)
set_option maxRecDepth 20000 in
theorem gX6_placeOf_X6_many : GoodIn wsX6_placeOf (wsV RX6 34 RX6 yX6_many wsX6_many) := goodIn_app (goodIn_of _ (by decide +kernel)) ggX6_placeOf_X6_many
set_option maxRecDepth 100000 in
theorem ggX6_placeOf_X6_nameAt : GoodIn wsX6_placeOf wsX6_nameAt := goodIn_r _ [10, 6, 11, 12, 13, 4, 14, 15, 16, 17, 18, 19, 20, 21, 22, 23, 24] rfl (by decide +kernel)
set_option maxRecDepth 20000 in
theorem gX6_placeOf_X6_nameAt : GoodIn wsX6_placeOf (wsV RX6 38 RX6 yX6_nameAt wsX6_nameAt) := goodIn_app (goodIn_of _ (by decide +kernel)) ggX6_placeOf_X6_nameAt
set_option maxRecDepth 100000 in
theorem ggX6_noLine_X6_in : GoodIn wsX6_noLine wsX6_in := goodIn_r _ [4] rfl (by decide +kernel)
set_option maxRecDepth 20000 in
theorem gX6_noLine_X6_in : GoodIn wsX6_noLine (va_wsS RX6 41 yX6_in wsX6_in) := goodIn_app (goodIn_of _ (by decide +kernel)) ggX6_noLine_X6_in
set_option maxRecDepth 100000 in
theorem ggX6_noLine_X6_many : GoodIn wsX6_noLine wsX6_many := goodIn_r _ [8, 9, 10, 11, 12, 13, 14, 15, 16, 17, 18, 19] rfl (by decide +kernel)
set_option maxRecDepth 20000 in
theorem gX6_noLine_X6_many : GoodIn wsX6_noLine (wsV RX6 34 RX6 yX6_many wsX6_many) := goodIn_app (goodIn_of _ (by decide +kernel)) ggX6_noLine_X6_many
set_option maxRecDepth 100000 in
theorem ggX6_freeSlot_X6_many : GoodIn wsX6_freeSlot wsX6_many := goodIn_r _ [5, 6, 11, 12, 13, 14, 15, 16, 17, 18, 19, 20] rfl (by decide +kernel)
set_option maxRecDepth 20000 in
theorem gX6_freeSlot_X6_many : GoodIn wsX6_freeSlot (wsV RX6 34 RX6 yX6_many wsX6_many) := goodIn_app (goodIn_of _ (by decide +kernel)) ggX6_freeSlot_X6_many
set_option maxRecDepth 100000 in
theorem ggX6_freeSlot_X6_slot : GoodIn wsX6_freeSlot wsX6_slot := goodIn_r _ [10, 6, 11, 12, 13, 14, 15, 16, 17, 18, 19, 20] rfl (by decide +kernel)
set_option maxRecDepth 20000 in
theorem gX6_freeSlot_X6_slot : GoodIn wsX6_freeSlot (wsV RX6 30 RX6 yX6_slot wsX6_slot) := goodIn_app (goodIn_of _ (by decide +kernel)) ggX6_freeSlot_X6_slot
set_option maxRecDepth 100000 in
theorem ggX6_baseAt_X6_slot : GoodIn wsX6_baseAt wsX6_slot := goodIn_r _ [5, 6, 7, 8, 9, 10, 11, 12, 13, 14, 15, 16] rfl (by decide +kernel)
set_option maxRecDepth 20000 in
theorem gX6_baseAt_X6_slot : GoodIn wsX6_baseAt (wsV RX6 30 RX6 yX6_slot wsX6_slot) := goodIn_app (goodIn_of _ (by decide +kernel)) ggX6_baseAt_X6_slot
set_option maxRecDepth 100000 in
theorem ggX6_putLine_X6_freeSlot : GoodIn wsX6_putLine wsX6_freeSlot := goodIn_r _ [6, 7, 8, 9, 5, 10, 1, 11, 12, 13, 14, 19, 20, 21, 22, 23, 24, 25, 26, 27, 28] rfl (by decide +kernel)
set_option maxRecDepth 20000 in
theorem gX6_putLine_X6_freeSlot : GoodIn wsX6_putLine (wsV RX6 45 RX6 yX6_freeSlot wsX6_freeSlot) := goodIn_app (goodIn_of _ (by decide +kernel)) ggX6_putLine_X6_freeSlot
set_option maxRecDepth 100000 in
theorem ggX6_putLine_X6_many : GoodIn wsX6_putLine wsX6_many := goodIn_r _ [10, 1, 19, 20, 21, 22, 23, 24, 25, 26, 27, 28] rfl (by decide +kernel)
set_option maxRecDepth 20000 in
theorem gX6_putLine_X6_many : GoodIn wsX6_putLine (wsV RX6 34 RX6 yX6_many wsX6_many) := goodIn_app (goodIn_of _ (by decide +kernel)) ggX6_putLine_X6_many
set_option maxRecDepth 100000 in
theorem ggX6_putLine_X6_baseAt : GoodIn wsX6_putLine wsX6_baseAt := goodIn_r _ [18, 11, 12, 13, 5, 14, 1, 19, 20, 21, 22, 23, 24, 25, 26, 27, 28] rfl (by decide +kernel)
set_option maxRecDepth 20000 in
theorem gX6_putLine_X6_baseAt : GoodIn wsX6_putLine (wsV RX6 48 RX6 yX6_baseAt wsX6_baseAt) := goodIn_app (goodIn_of _ (by decide +kernel)) ggX6_putLine_X6_baseAt
set_option maxRecDepth 100000 in
theorem ggX6_takeLine_X6_many : GoodIn wsX6_takeLine wsX6_many := goodIn_r _ [6, 1, 7, 8, 9, 10, 11, 12, 13, 14, 15, 16] rfl (by decide +kernel)
set_option maxRecDepth 20000 in
theorem gX6_takeLine_X6_many : GoodIn wsX6_takeLine (wsV RX6 34 RX6 yX6_many wsX6_many) := goodIn_app (goodIn_of _ (by decide +kernel)) ggX6_takeLine_X6_many
set_option maxRecDepth 100000 in
theorem ggX6_isPending_X6_of : GoodIn wsX6_isPending wsX6_of := goodIn_r _ [5, 6, 7, 8, 9, 10, 11, 12, 13, 14, 15, 16] rfl (by decide +kernel)
set_option maxRecDepth 20000 in
theorem gX6_isPending_X6_of : GoodIn wsX6_isPending (wsV RX6 51 RX6 yX6_of wsX6_of) := goodIn_app (goodIn_of _ (by decide +kernel)) ggX6_isPending_X6_of
set_option maxRecDepth 100000 in
theorem ggX6_noChange_X6_in : GoodIn wsX6_noChange wsX6_in := goodIn_r _ [5] rfl (by decide +kernel)
set_option maxRecDepth 20000 in
theorem gX6_noChange_X6_in : GoodIn wsX6_noChange (va_wsS RX6 41 yX6_in wsX6_in) := goodIn_app (goodIn_of _ (by decide +kernel)) ggX6_noChange_X6_in
set_option maxRecDepth 100000 in
theorem ggX6_ofLine_X6_isPending : GoodIn wsX6_ofLine wsX6_isPending := goodIn_r _ [6, 7, 8, 9, 5, 10, 1, 11, 12, 13, 14, 15, 16, 17, 18, 19, 20] rfl (by decide +kernel)
set_option maxRecDepth 20000 in
theorem gX6_ofLine_X6_isPending : GoodIn wsX6_ofLine (wsV RX6 54 RX6 yX6_isPending wsX6_isPending) := goodIn_app (goodIn_of _ (by decide +kernel)) ggX6_ofLine_X6_isPending
set_option maxRecDepth 100000 in
theorem ggX6_ofLine_X6_of : GoodIn wsX6_ofLine wsX6_of := goodIn_r _ [10, 1, 11, 12, 13, 14, 15, 16, 17, 18, 19, 20] rfl (by decide +kernel)
set_option maxRecDepth 20000 in
theorem gX6_ofLine_X6_of : GoodIn wsX6_ofLine (wsV RX6 51 RX6 yX6_of wsX6_of) := goodIn_app (goodIn_of _ (by decide +kernel)) ggX6_ofLine_X6_of
set_option maxRecDepth 100000 in
theorem ggX6_insertionOf_X6_nameAt : GoodIn wsX6_insertionOf wsX6_nameAt := goodIn_r _ [5, 6, 7, 8, 9, 4, 10, 23, 24, 25, 26, 27, 28, 29, 30, 31, 32] rfl (by decide +kernel)
set_option maxRecDepth 20000 in
theorem gX6_insertionOf_X6_nameAt : GoodIn wsX6_insertionOf (wsV RX6 38 RX6 yX6_nameAt wsX6_nameAt) := goodIn_app (goodIn_of _ (by decide +kernel)) ggX6_insertionOf_X6_nameAt
set_option maxRecDepth 100000 in
theorem ggX6_insertionOf_X6_ofLine : GoodIn wsX6_insertionOf wsX6_ofLine := goodIn_r _ [14, 6, 15, 16, 17, 4, 18, 19, 20, 21, 22, 23, 24, 25, 26, 27, 28, 29, 30, 31, 32] rfl (by decide +kernel)
set_option maxRecDepth 20000 in
theorem gX6_insertionOf_X6_ofLine : GoodIn wsX6_insertionOf (wsV RX6 58 RX6 yX6_ofLine wsX6_ofLine) := goodIn_app (goodIn_of _ (by decide +kernel)) ggX6_insertionOf_X6_ofLine
set_option maxRecDepth 100000 in
theorem ggX6_removalOf_X6_nameAt : GoodIn wsX6_removalOf wsX6_nameAt := goodIn_r _ [5, 6, 7, 8, 9, 4, 10, 23, 24, 25, 26, 27, 28, 29, 30, 31, 32] rfl (by decide +kernel)
set_option maxRecDepth 20000 in
theorem gX6_removalOf_X6_nameAt : GoodIn wsX6_removalOf (wsV RX6 38 RX6 yX6_nameAt wsX6_nameAt) := goodIn_app (goodIn_of _ (by decide +kernel)) ggX6_removalOf_X6_nameAt
set_option maxRecDepth 100000 in
theorem ggX6_removalOf_X6_ofLine : GoodIn wsX6_removalOf wsX6_ofLine := goodIn_r _ [14, 6, 15, 16, 17, 4, 18, 19, 20, 21, 22, 23, 24, 25, 26, 27, 28, 29, 30, 31, 32] rfl (by decide +kernel)
set_option maxRecDepth 20000 in
theorem gX6_removalOf_X6_ofLine : GoodIn wsX6_removalOf (wsV RX6 58 RX6 yX6_ofLine wsX6_ofLine) := goodIn_app (goodIn_of _ (by decide +kernel)) ggX6_removalOf_X6_ofLine
set_option maxRecDepth 100000 in
theorem ggX6_isNew_X6_insertionOf : GoodIn wsX6_isNew wsX6_insertionOf := goodIn_r _ [5, 6, 7, 8, 4, 9, 10, 11, 12, 13, 14, 15, 16, 17, 18, 19, 20, 21, 22, 23, 24, 25, 26, 27, 28, 29, 30, 31, 32, 33, 34, 35, 36] rfl (by decide +kernel)
set_option maxRecDepth 20000 in
theorem gX6_isNew_X6_insertionOf : GoodIn wsX6_isNew (wsV RX6 61 RX6 yX6_insertionOf wsX6_insertionOf) := goodIn_app (goodIn_of _ (by decide +kernel)) ggX6_isNew_X6_insertionOf
set_option maxRecDepth 100000 in
theorem ggX6_isDoomed_X6_removalOf : GoodIn wsX6_isDoomed wsX6_removalOf := goodIn_r _ [5, 6, 7, 8, 4, 9, 10, 11, 12, 13, 14, 15, 16, 17, 18, 19, 20, 21, 22, 23, 24, 25, 26, 27, 28, 29, 30, 31, 32, 33, 34, 35, 36] rfl (by decide +kernel)
set_option maxRecDepth 20000 in
theorem gX6_isDoomed_X6_removalOf : GoodIn wsX6_isDoomed (wsV RX6 64 RX6 yX6_removalOf wsX6_removalOf) := goodIn_app (goodIn_of _ (by decide +kernel)) ggX6_isDoomed_X6_removalOf
set_option maxRecDepth 100000 in
theorem ggX6_isSettingOf_X6_isPending : GoodIn wsX6_isSettingOf wsX6_isPending := goodIn_r _ [5, 6, 7, 8, 4, 9, 10, 11, 12, 13, 14, 15, 16, 17, 18, 19, 20] rfl (by decide +kernel)
set_option maxRecDepth 20000 in
theorem gX6_isSettingOf_X6_isPending : GoodIn wsX6_isSettingOf (wsV RX6 54 RX6 yX6_isPending wsX6_isPending) := goodIn_app (goodIn_of _ (by decide +kernel)) ggX6_isSettingOf_X6_isPending
set_option maxRecDepth 100000 in
theorem ggX6_isSettingOf_X6_of : GoodIn wsX6_isSettingOf wsX6_of := goodIn_r _ [9, 10, 11, 12, 13, 14, 15, 16, 17, 18, 19, 20] rfl (by decide +kernel)
set_option maxRecDepth 20000 in
theorem gX6_isSettingOf_X6_of : GoodIn wsX6_isSettingOf (wsV RX6 51 RX6 yX6_of wsX6_of) := goodIn_app (goodIn_of _ (by decide +kernel)) ggX6_isSettingOf_X6_of
set_option maxRecDepth 100000 in
theorem ggX6_settingBelow_X6_isSettingOf : GoodIn wsX6_settingBelow wsX6_isSettingOf := goodIn_r _ [5, 6, 7, 8, 4, 9, 10, 11, 12, 13, 14, 15, 16, 17, 18, 19, 20, 21, 22, 23, 24] rfl (by decide +kernel)
set_option maxRecDepth 20000 in
theorem gX6_settingBelow_X6_isSettingOf : GoodIn wsX6_settingBelow (wsV RX6 67 RX6 yX6_isSettingOf wsX6_isSettingOf) := goodIn_app (goodIn_of _ (by decide +kernel)) ggX6_settingBelow_X6_isSettingOf
set_option maxRecDepth 100000 in
theorem ggX6_baseOf_X6_placeOf : GoodIn wsX6_baseOf wsX6_placeOf := goodIn_r _ [6, 7, 8, 9, 5, 10, 1, 11, 12, 13, 14, 15, 16, 17, 18, 23, 24, 25, 26, 27, 28, 29, 30, 31, 32] rfl (by decide +kernel)
set_option maxRecDepth 20000 in
theorem gX6_baseOf_X6_placeOf : GoodIn wsX6_baseOf (wsV RX6 70 RX6 yX6_placeOf wsX6_placeOf) := goodIn_app (goodIn_of _ (by decide +kernel)) ggX6_baseOf_X6_placeOf
set_option maxRecDepth 100000 in
theorem ggX6_baseOf_X6_baseAt : GoodIn wsX6_baseOf wsX6_baseAt := goodIn_r _ [22, 15, 16, 17, 5, 18, 1, 23, 24, 25, 26, 27, 28, 29, 30, 31, 32] rfl (by decide +kernel)
set_option maxRecDepth 20000 in
theorem gX6_baseOf_X6_baseAt : GoodIn wsX6_baseOf (wsV RX6 48 RX6 yX6_baseAt wsX6_baseAt) := goodIn_app (goodIn_of _ (by decide +kernel)) ggX6_baseOf_X6_baseAt
set_option maxRecDepth 100000 in
theorem ggX6_valueBelow_X6_settingBelow : GoodIn wsX6_valueBelow wsX6_settingBelow := goodIn_r _ [5, 6, 7, 8, 4, 9, 10, 11, 12, 13, 14, 15, 16, 17, 18, 43, 44, 45, 46, 47, 48, 49, 50, 51, 52] rfl (by decide +kernel)
set_option maxRecDepth 20000 in
theorem gX6_valueBelow_X6_settingBelow : GoodIn wsX6_valueBelow (wsV RX6 73 RX6 yX6_settingBelow wsX6_settingBelow) := goodIn_app (goodIn_of _ (by decide +kernel)) ggX6_valueBelow_X6_settingBelow
set_option maxRecDepth 100000 in
theorem ggX6_valueBelow_X6_baseOf : GoodIn wsX6_valueBelow wsX6_baseOf := goodIn_r _ [22, 18, 23, 24, 25, 4, 26, 27, 28, 29, 30, 31, 32, 33, 34, 35, 36, 37, 38, 39, 40, 41, 42, 43, 44, 45, 46, 47, 48, 49, 50, 51, 52] rfl (by decide +kernel)
set_option maxRecDepth 20000 in
theorem gX6_valueBelow_X6_baseOf : GoodIn wsX6_valueBelow (wsV RX6 77 RX6 yX6_baseOf wsX6_baseOf) := goodIn_app (goodIn_of _ (by decide +kernel)) ggX6_valueBelow_X6_baseOf
set_option maxRecDepth 100000 in
theorem ggX6_valueBelow_X6_of : GoodIn wsX6_valueBelow wsX6_of := goodIn_r _ [17, 18, 43, 44, 45, 46, 47, 48, 49, 50, 51, 52] rfl (by decide +kernel)
set_option maxRecDepth 20000 in
theorem gX6_valueBelow_X6_of : GoodIn wsX6_valueBelow (wsV RX6 51 RX6 yX6_of wsX6_of) := goodIn_app (goodIn_of _ (by decide +kernel)) ggX6_valueBelow_X6_of
set_option maxRecDepth 100000 in
theorem ggX6_isAtLine_X6_of : GoodIn wsX6_isAtLine wsX6_of := goodIn_r _ [5, 6, 7, 8, 9, 10, 11, 12, 13, 14, 15, 16] rfl (by decide +kernel)
set_option maxRecDepth 20000 in
theorem gX6_isAtLine_X6_of : GoodIn wsX6_isAtLine (wsV RX6 51 RX6 yX6_of wsX6_of) := goodIn_app (goodIn_of _ (by decide +kernel)) ggX6_isAtLine_X6_of
set_option maxRecDepth 100000 in
theorem ggX6_dissolveAt_X6_isPending : GoodIn wsX6_dissolveAt wsX6_isPending := goodIn_r _ [6, 7, 8, 9, 5, 10, 1, 15, 16, 17, 18, 19, 20, 21, 22, 23, 24] rfl (by decide +kernel)
set_option maxRecDepth 20000 in
theorem gX6_dissolveAt_X6_isPending : GoodIn wsX6_dissolveAt (wsV RX6 54 RX6 yX6_isPending wsX6_isPending) := goodIn_app (goodIn_of _ (by decide +kernel)) ggX6_dissolveAt_X6_isPending
set_option maxRecDepth 100000 in
theorem ggX6_dissolveAt_X6_isAtLine : GoodIn wsX6_dissolveAt wsX6_isAtLine := goodIn_r _ [14, 7, 8, 9, 5, 10, 1, 15, 16, 17, 18, 19, 20, 21, 22, 23, 24] rfl (by decide +kernel)
set_option maxRecDepth 20000 in
theorem gX6_dissolveAt_X6_isAtLine : GoodIn wsX6_dissolveAt (wsV RX6 80 RX6 yX6_isAtLine wsX6_isAtLine) := goodIn_app (goodIn_of _ (by decide +kernel)) ggX6_dissolveAt_X6_isAtLine
set_option maxRecDepth 100000 in
theorem ggX6_dissolveAt_X6_of : GoodIn wsX6_dissolveAt wsX6_of := goodIn_r _ [10, 1, 15, 16, 17, 18, 19, 20, 21, 22, 23, 24] rfl (by decide +kernel)
set_option maxRecDepth 20000 in
theorem gX6_dissolveAt_X6_of : GoodIn wsX6_dissolveAt (wsV RX6 51 RX6 yX6_of wsX6_of) := goodIn_app (goodIn_of _ (by decide +kernel)) ggX6_dissolveAt_X6_of
set_option maxRecDepth 100000 in
theorem ggX6_rests_X6_isPending : GoodIn wsX6_rests wsX6_isPending := goodIn_r _ [5, 6, 7, 8, 4, 9, 10, 19, 20, 21, 22, 23, 24, 25, 26, 27, 28] rfl (by decide +kernel)
set_option maxRecDepth 20000 in
theorem gX6_rests_X6_isPending : GoodIn wsX6_rests (wsV RX6 54 RX6 yX6_isPending wsX6_isPending) := goodIn_app (goodIn_of _ (by decide +kernel)) ggX6_rests_X6_isPending
set_option maxRecDepth 100000 in
theorem ggX6_rests_X6_of : GoodIn wsX6_rests wsX6_of := goodIn_r _ [9, 10, 19, 20, 21, 22, 23, 24, 25, 26, 27, 28] rfl (by decide +kernel)
set_option maxRecDepth 20000 in
theorem gX6_rests_X6_of : GoodIn wsX6_rests (wsV RX6 51 RX6 yX6_of wsX6_of) := goodIn_app (goodIn_of _ (by decide +kernel)) ggX6_rests_X6_of
set_option maxRecDepth 100000 in
theorem ggX6_rests_X6_isSettingOf : GoodIn wsX6_rests wsX6_isSettingOf := goodIn_r _ [14, 1, 2, 3, 4, 5, 6, 7, 8, 9, 10, 19, 20, 21, 22, 23, 24, 25, 26, 27, 28] rfl (by decide +kernel)
set_option maxRecDepth 20000 in
theorem gX6_rests_X6_isSettingOf : GoodIn wsX6_rests (wsV RX6 67 RX6 yX6_isSettingOf wsX6_isSettingOf) := goodIn_app (goodIn_of _ (by decide +kernel)) ggX6_rests_X6_isSettingOf
set_option maxRecDepth 100000 in
theorem ggX6_rests_X6_isAtLine : GoodIn wsX6_rests wsX6_isAtLine := goodIn_r _ [18, 6, 7, 8, 4, 9, 10, 19, 20, 21, 22, 23, 24, 25, 26, 27, 28] rfl (by decide +kernel)
set_option maxRecDepth 20000 in
theorem gX6_rests_X6_isAtLine : GoodIn wsX6_rests (wsV RX6 80 RX6 yX6_isAtLine wsX6_isAtLine) := goodIn_app (goodIn_of _ (by decide +kernel)) ggX6_rests_X6_isAtLine
set_option maxRecDepth 100000 in
theorem ggX6_noAuthor_X6_in : GoodIn wsX6_noAuthor wsX6_in := goodIn_r _ [4] rfl (by decide +kernel)
set_option maxRecDepth 20000 in
theorem gX6_noAuthor_X6_in : GoodIn wsX6_noAuthor (va_wsS RX6 41 yX6_in wsX6_in) := goodIn_app (goodIn_of _ (by decide +kernel)) ggX6_noAuthor_X6_in
set_option maxRecDepth 100000 in
theorem ggX6_pendingOnes_X6_isPending : GoodIn wsX6_pendingOnes wsX6_isPending := goodIn_r _ [6, 7, 8, 9, 5, 10, 1, 11, 12, 13, 14, 15, 16, 17, 18, 19, 20] rfl (by decide +kernel)
set_option maxRecDepth 20000 in
theorem gX6_pendingOnes_X6_isPending : GoodIn wsX6_pendingOnes (wsV RX6 54 RX6 yX6_isPending wsX6_isPending) := goodIn_app (goodIn_of _ (by decide +kernel)) ggX6_pendingOnes_X6_isPending
set_option maxRecDepth 100000 in
theorem ggX6_track_X6_begin : GoodIn wsX6_track wsX6_begin := goodIn_r _ [6, 7, 1, 26, 27, 28, 29, 30, 31, 32, 33, 34, 35] rfl (by decide +kernel)
set_option maxRecDepth 20000 in
theorem gX6_track_X6_begin : GoodIn wsX6_track (wsV RX6 83 RX6 yX6_begin wsX6_begin) := goodIn_app (goodIn_of _ (by decide +kernel)) ggX6_track_X6_begin
set_option maxRecDepth 100000 in
theorem ggX6_track_X6_pendingOnes : GoodIn wsX6_track wsX6_pendingOnes := goodIn_r _ [11, 1, 12, 13, 14, 5, 15, 16, 17, 18, 19, 26, 27, 28, 29, 30, 31, 32, 33, 34, 35] rfl (by decide +kernel)
set_option maxRecDepth 20000 in
theorem gX6_track_X6_pendingOnes : GoodIn wsX6_track (wsV RX6 86 RX6 yX6_pendingOnes wsX6_pendingOnes) := goodIn_app (goodIn_of _ (by decide +kernel)) ggX6_track_X6_pendingOnes
set_option maxRecDepth 100000 in
theorem ggX6_track_X6_done : GoodIn wsX6_track wsX6_done := goodIn_r _ [23, 24, 25, 7, 26, 27, 28, 29, 30, 31, 32, 33, 34, 35] rfl (by decide +kernel)
set_option maxRecDepth 20000 in
theorem gX6_track_X6_done : GoodIn wsX6_track (wsV RX6 90 RX6 yX6_done wsX6_done) := goodIn_app (goodIn_of _ (by decide +kernel)) ggX6_track_X6_done
set_option maxRecDepth 100000 in
theorem ggX6_doInsert_X6_noAuthor : GoodIn wsX6_doInsert wsX6_noAuthor := goodIn_r _ [5, 6, 7, 4, 8] rfl (by decide +kernel)
set_option maxRecDepth 20000 in
theorem gX6_doInsert_X6_noAuthor : GoodIn wsX6_doInsert (va_wsS RX6 93 yX6_noAuthor wsX6_noAuthor) := goodIn_app (goodIn_of _ (by decide +kernel)) ggX6_doInsert_X6_noAuthor
set_option maxRecDepth 100000 in
theorem ggX6_doInsert_X6_in : GoodIn wsX6_doInsert wsX6_in := goodIn_r _ [8] rfl (by decide +kernel)
set_option maxRecDepth 20000 in
theorem gX6_doInsert_X6_in : GoodIn wsX6_doInsert (va_wsS RX6 41 yX6_in wsX6_in) := goodIn_app (goodIn_of _ (by decide +kernel)) ggX6_doInsert_X6_in
set_option maxRecDepth 100000 in
theorem ggX6_doInsert_X6_many : GoodIn wsX6_doInsert wsX6_many := goodIn_r _ [12, 1, 37, 38, 39, 40, 41, 42, 43, 44, 45, 46] rfl (by decide +kernel)
set_option maxRecDepth 20000 in
theorem gX6_doInsert_X6_many : GoodIn wsX6_doInsert (wsV RX6 34 RX6 yX6_many wsX6_many) := goodIn_app (goodIn_of _ (by decide +kernel)) ggX6_doInsert_X6_many
set_option maxRecDepth 100000 in
theorem ggX6_doInsert_X6_isTracked : GoodIn wsX6_doInsert wsX6_isTracked := goodIn_r _ [16, 1, 37, 38, 39, 40, 41, 42, 43, 44, 45, 46] rfl (by decide +kernel)
set_option maxRecDepth 20000 in
theorem gX6_doInsert_X6_isTracked : GoodIn wsX6_doInsert (wsV RX6 96 RX6 yX6_isTracked wsX6_isTracked) := goodIn_app (goodIn_of _ (by decide +kernel)) ggX6_doInsert_X6_isTracked
set_option maxRecDepth 100000 in
theorem ggX6_doInsert_X6_putLine : GoodIn wsX6_doInsert wsX6_putLine := goodIn_r _ [20, 1, 21, 22, 23, 4, 24, 9, 10, 11, 12, 25, 26, 27, 28, 29, 30, 31, 32, 37, 38, 39, 40, 41, 42, 43, 44, 45, 46] rfl (by decide +kernel)
set_option maxRecDepth 20000 in
theorem gX6_doInsert_X6_putLine : GoodIn wsX6_doInsert (wsV RX6 100 RX6 yX6_putLine wsX6_putLine) := goodIn_app (goodIn_of _ (by decide +kernel)) ggX6_doInsert_X6_putLine
set_option maxRecDepth 100000 in
theorem ggX6_doInsert_X6_make : GoodIn wsX6_doInsert wsX6_make := goodIn_r _ [36, 1, 37, 38, 39, 40, 41, 42, 43, 44, 45, 46] rfl (by decide +kernel)
set_option maxRecDepth 20000 in
theorem gX6_doInsert_X6_make : GoodIn wsX6_doInsert (wsV RX6 103 RX6 yX6_make wsX6_make) := goodIn_app (goodIn_of _ (by decide +kernel)) ggX6_doInsert_X6_make
set_option maxRecDepth 100000 in
theorem ggX6_insert_X6_begin : GoodIn wsX6_insert wsX6_begin := goodIn_r _ [5, 6, 7, 52, 53, 54, 55, 56, 57, 58, 59, 60, 61] rfl (by decide +kernel)
set_option maxRecDepth 20000 in
theorem gX6_insert_X6_begin : GoodIn wsX6_insert (wsV RX6 83 RX6 yX6_begin wsX6_begin) := goodIn_app (goodIn_of _ (by decide +kernel)) ggX6_insert_X6_begin
set_option maxRecDepth 100000 in
theorem ggX6_insert_X6_doInsert : GoodIn wsX6_insert wsX6_doInsert := goodIn_r _ [11, 7, 12, 13, 4, 14, 15, 16, 17, 18, 19, 20, 21, 22, 23, 24, 25, 26, 27, 28, 29, 30, 31, 32, 33, 34, 35, 36, 37, 38, 39, 40, 41, 42, 43, 44, 45, 52, 53, 54, 55, 56, 57, 58, 59, 60, 61] rfl (by decide +kernel)
set_option maxRecDepth 20000 in
theorem gX6_insert_X6_doInsert : GoodIn wsX6_insert (wsV RX6 107 RX6 yX6_doInsert wsX6_doInsert) := goodIn_app (goodIn_of _ (by decide +kernel)) ggX6_insert_X6_doInsert
set_option maxRecDepth 100000 in
theorem ggX6_insert_X6_done : GoodIn wsX6_insert wsX6_done := goodIn_r _ [49, 50, 51, 6, 52, 53, 54, 55, 56, 57, 58, 59, 60, 61] rfl (by decide +kernel)
set_option maxRecDepth 20000 in
theorem gX6_insert_X6_done : GoodIn wsX6_insert (wsV RX6 90 RX6 yX6_done wsX6_done) := goodIn_app (goodIn_of _ (by decide +kernel)) ggX6_insert_X6_done
set_option maxRecDepth 100000 in
theorem ggX6_doRemove_X6_noAuthor : GoodIn wsX6_doRemove wsX6_noAuthor := goodIn_r _ [5, 6, 7, 4, 8] rfl (by decide +kernel)
set_option maxRecDepth 20000 in
theorem gX6_doRemove_X6_noAuthor : GoodIn wsX6_doRemove (va_wsS RX6 93 yX6_noAuthor wsX6_noAuthor) := goodIn_app (goodIn_of _ (by decide +kernel)) ggX6_doRemove_X6_noAuthor
set_option maxRecDepth 100000 in
theorem ggX6_doRemove_X6_noLine : GoodIn wsX6_doRemove wsX6_noLine := goodIn_r _ [12, 6, 7, 4, 8, 13, 14, 15, 16, 1, 69, 70, 71, 72, 73, 74, 75, 76, 77, 78] rfl (by decide +kernel)
set_option maxRecDepth 20000 in
theorem gX6_doRemove_X6_noLine : GoodIn wsX6_doRemove (wsV RX6 110 RX6 yX6_noLine wsX6_noLine) := goodIn_app (goodIn_of _ (by decide +kernel)) ggX6_doRemove_X6_noLine
set_option maxRecDepth 100000 in
theorem ggX6_doRemove_X6_nameAt : GoodIn wsX6_doRemove wsX6_nameAt := goodIn_r _ [20, 1, 21, 22, 23, 4, 24, 69, 70, 71, 72, 73, 74, 75, 76, 77, 78] rfl (by decide +kernel)
set_option maxRecDepth 20000 in
theorem gX6_doRemove_X6_nameAt : GoodIn wsX6_doRemove (wsV RX6 38 RX6 yX6_nameAt wsX6_nameAt) := goodIn_app (goodIn_of _ (by decide +kernel)) ggX6_doRemove_X6_nameAt
set_option maxRecDepth 100000 in
theorem ggX6_doRemove_X6_isTracked : GoodIn wsX6_doRemove wsX6_isTracked := goodIn_r _ [28, 1, 69, 70, 71, 72, 73, 74, 75, 76, 77, 78] rfl (by decide +kernel)
set_option maxRecDepth 20000 in
theorem gX6_doRemove_X6_isTracked : GoodIn wsX6_doRemove (wsV RX6 96 RX6 yX6_isTracked wsX6_isTracked) := goodIn_app (goodIn_of _ (by decide +kernel)) ggX6_doRemove_X6_isTracked
set_option maxRecDepth 100000 in
theorem ggX6_doRemove_X6_dissolveAt : GoodIn wsX6_doRemove wsX6_dissolveAt := goodIn_r _ [32, 1, 33, 34, 35, 4, 36, 37, 38, 39, 40, 41, 42, 43, 44, 69, 70, 71, 72, 73, 74, 75, 76, 77, 78] rfl (by decide +kernel)
set_option maxRecDepth 20000 in
theorem gX6_doRemove_X6_dissolveAt : GoodIn wsX6_doRemove (wsV RX6 114 RX6 yX6_dissolveAt wsX6_dissolveAt) := goodIn_app (goodIn_of _ (by decide +kernel)) ggX6_doRemove_X6_dissolveAt
set_option maxRecDepth 100000 in
theorem ggX6_doRemove_X6_takeLine : GoodIn wsX6_doRemove wsX6_takeLine := goodIn_r _ [48, 1, 13, 14, 15, 4, 16, 69, 70, 71, 72, 73, 74, 75, 76, 77, 78] rfl (by decide +kernel)
set_option maxRecDepth 20000 in
theorem gX6_doRemove_X6_takeLine : GoodIn wsX6_doRemove (wsV RX6 118 RX6 yX6_takeLine wsX6_takeLine) := goodIn_app (goodIn_of _ (by decide +kernel)) ggX6_doRemove_X6_takeLine
set_option maxRecDepth 100000 in
theorem ggX6_doRemove_X6_isDoomed : GoodIn wsX6_doRemove wsX6_isDoomed := goodIn_r _ [52, 53, 54, 55, 4, 56, 17, 18, 19, 20, 1, 21, 22, 23, 24, 57, 58, 59, 60, 33, 34, 35, 36, 37, 38, 39, 40, 69, 70, 71, 72, 73, 74, 75, 76, 77, 78] rfl (by decide +kernel)
set_option maxRecDepth 20000 in
theorem gX6_doRemove_X6_isDoomed : GoodIn wsX6_doRemove (wsV RX6 122 RX6 yX6_isDoomed wsX6_isDoomed) := goodIn_app (goodIn_of _ (by decide +kernel)) ggX6_doRemove_X6_isDoomed
set_option maxRecDepth 100000 in
theorem ggX6_doRemove_X6_insertionOf : GoodIn wsX6_doRemove wsX6_insertionOf := goodIn_r _ [64, 17, 18, 19, 4, 20, 1, 21, 22, 23, 24, 57, 58, 59, 60, 33, 34, 35, 36, 37, 38, 39, 40, 69, 70, 71, 72, 73, 74, 75, 76, 77, 78] rfl (by decide +kernel)
set_option maxRecDepth 20000 in
theorem gX6_doRemove_X6_insertionOf : GoodIn wsX6_doRemove (wsV RX6 61 RX6 yX6_insertionOf wsX6_insertionOf) := goodIn_app (goodIn_of _ (by decide +kernel)) ggX6_doRemove_X6_insertionOf
set_option maxRecDepth 100000 in
theorem ggX6_doRemove_X6_of : GoodIn wsX6_doRemove wsX6_of := goodIn_r _ [40, 1, 69, 70, 71, 72, 73, 74, 75, 76, 77, 78] rfl (by decide +kernel)
set_option maxRecDepth 20000 in
theorem gX6_doRemove_X6_of : GoodIn wsX6_doRemove (wsV RX6 51 RX6 yX6_of wsX6_of) := goodIn_app (goodIn_of _ (by decide +kernel)) ggX6_doRemove_X6_of
set_option maxRecDepth 100000 in
theorem ggX6_doRemove_X6_make : GoodIn wsX6_doRemove wsX6_make := goodIn_r _ [68, 1, 69, 70, 71, 72, 73, 74, 75, 76, 77, 78] rfl (by decide +kernel)
set_option maxRecDepth 20000 in
theorem gX6_doRemove_X6_make : GoodIn wsX6_doRemove (wsV RX6 103 RX6 yX6_make wsX6_make) := goodIn_app (goodIn_of _ (by decide +kernel)) ggX6_doRemove_X6_make
set_option maxRecDepth 100000 in
theorem ggX6_remove_X6_begin : GoodIn wsX6_remove wsX6_begin := goodIn_r _ [5, 6, 7, 84, 85, 86, 87, 88, 89, 90, 91, 92, 93] rfl (by decide +kernel)
set_option maxRecDepth 20000 in
theorem gX6_remove_X6_begin : GoodIn wsX6_remove (wsV RX6 83 RX6 yX6_begin wsX6_begin) := goodIn_app (goodIn_of _ (by decide +kernel)) ggX6_remove_X6_begin
set_option maxRecDepth 100000 in
theorem ggX6_remove_X6_doRemove : GoodIn wsX6_remove wsX6_doRemove := goodIn_r _ [11, 7, 12, 13, 4, 14, 15, 16, 17, 18, 19, 20, 21, 22, 23, 24, 25, 26, 27, 28, 29, 30, 31, 32, 33, 34, 35, 36, 37, 38, 39, 40, 41, 42, 43, 44, 45, 46, 47, 48, 49, 50, 51, 52, 53, 54, 55, 56, 57, 58, 59, 60, 61, 62, 63, 64, 65, 66, 67, 68, 69, 70, 71, 72, 73, 74, 75, 76, 77, 84, 85, 86, 87, 88, 89, 90, 91, 92, 93] rfl (by decide +kernel)
set_option maxRecDepth 20000 in
theorem gX6_remove_X6_doRemove : GoodIn wsX6_remove (wsV RX6 125 RX6 yX6_doRemove wsX6_doRemove) := goodIn_app (goodIn_of _ (by decide +kernel)) ggX6_remove_X6_doRemove
set_option maxRecDepth 100000 in
theorem ggX6_remove_X6_done : GoodIn wsX6_remove wsX6_done := goodIn_r _ [81, 82, 83, 6, 84, 85, 86, 87, 88, 89, 90, 91, 92, 93] rfl (by decide +kernel)
set_option maxRecDepth 20000 in
theorem gX6_remove_X6_done : GoodIn wsX6_remove (wsV RX6 90 RX6 yX6_done wsX6_done) := goodIn_app (goodIn_of _ (by decide +kernel)) ggX6_remove_X6_done
set_option maxRecDepth 100000 in
theorem ggX6_doSet_X6_noAuthor : GoodIn wsX6_doSet wsX6_noAuthor := goodIn_r _ [5, 6, 7, 4, 8] rfl (by decide +kernel)
set_option maxRecDepth 20000 in
theorem gX6_doSet_X6_noAuthor : GoodIn wsX6_doSet (va_wsS RX6 93 yX6_noAuthor wsX6_noAuthor) := goodIn_app (goodIn_of _ (by decide +kernel)) ggX6_doSet_X6_noAuthor
set_option maxRecDepth 100000 in
theorem ggX6_doSet_X6_noLine : GoodIn wsX6_doSet wsX6_noLine := goodIn_r _ [12, 6, 7, 4, 8, 13, 14, 15, 16, 1, 77, 78, 79, 80, 81, 82, 83, 84, 85, 86] rfl (by decide +kernel)
set_option maxRecDepth 20000 in
theorem gX6_doSet_X6_noLine : GoodIn wsX6_doSet (wsV RX6 110 RX6 yX6_noLine wsX6_noLine) := goodIn_app (goodIn_of _ (by decide +kernel)) ggX6_doSet_X6_noLine
set_option maxRecDepth 100000 in
theorem ggX6_doSet_X6_in : GoodIn wsX6_doSet wsX6_in := goodIn_r _ [8] rfl (by decide +kernel)
set_option maxRecDepth 20000 in
theorem gX6_doSet_X6_in : GoodIn wsX6_doSet (va_wsS RX6 41 yX6_in wsX6_in) := goodIn_app (goodIn_of _ (by decide +kernel)) ggX6_doSet_X6_in
set_option maxRecDepth 100000 in
theorem ggX6_doSet_X6_nameAt : GoodIn wsX6_doSet wsX6_nameAt := goodIn_r _ [20, 1, 21, 22, 23, 4, 24, 77, 78, 79, 80, 81, 82, 83, 84, 85, 86] rfl (by decide +kernel)
set_option maxRecDepth 20000 in
theorem gX6_doSet_X6_nameAt : GoodIn wsX6_doSet (wsV RX6 38 RX6 yX6_nameAt wsX6_nameAt) := goodIn_app (goodIn_of _ (by decide +kernel)) ggX6_doSet_X6_nameAt
set_option maxRecDepth 100000 in
theorem ggX6_doSet_X6_isDoomed : GoodIn wsX6_doSet wsX6_isDoomed := goodIn_r _ [28, 29, 30, 31, 4, 32, 17, 18, 19, 20, 1, 21, 22, 23, 24, 33, 34, 35, 36, 37, 38, 39, 40, 41, 42, 43, 44, 77, 78, 79, 80, 81, 82, 83, 84, 85, 86] rfl (by decide +kernel)
set_option maxRecDepth 20000 in
theorem gX6_doSet_X6_isDoomed : GoodIn wsX6_doSet (wsV RX6 122 RX6 yX6_isDoomed wsX6_isDoomed) := goodIn_app (goodIn_of _ (by decide +kernel)) ggX6_doSet_X6_isDoomed
set_option maxRecDepth 100000 in
theorem ggX6_doSet_X6_valueBelow : GoodIn wsX6_doSet wsX6_valueBelow := goodIn_r _ [48, 49, 50, 51, 4, 52, 53, 54, 55, 56, 37, 38, 39, 40, 41, 42, 43, 44, 1, 57, 58, 59, 60, 61, 62, 63, 64, 13, 14, 15, 16, 17, 18, 19, 20, 21, 22, 23, 24, 65, 66, 67, 68, 77, 78, 79, 80, 81, 82, 83, 84, 85, 86] rfl (by decide +kernel)
set_option maxRecDepth 20000 in
theorem gX6_doSet_X6_valueBelow : GoodIn wsX6_doSet (wsV RX6 128 RX6 yX6_valueBelow wsX6_valueBelow) := goodIn_app (goodIn_of _ (by decide +kernel)) ggX6_doSet_X6_valueBelow
set_option maxRecDepth 100000 in
theorem ggX6_doSet_X6_isTracked : GoodIn wsX6_doSet wsX6_isTracked := goodIn_r _ [72, 1, 77, 78, 79, 80, 81, 82, 83, 84, 85, 86] rfl (by decide +kernel)
set_option maxRecDepth 20000 in
theorem gX6_doSet_X6_isTracked : GoodIn wsX6_doSet (wsV RX6 96 RX6 yX6_isTracked wsX6_isTracked) := goodIn_app (goodIn_of _ (by decide +kernel)) ggX6_doSet_X6_isTracked
set_option maxRecDepth 100000 in
theorem ggX6_doSet_X6_isSettingOf : GoodIn wsX6_doSet wsX6_isSettingOf := goodIn_r _ [56, 37, 38, 39, 4, 40, 41, 42, 43, 44, 1, 77, 78, 79, 80, 81, 82, 83, 84, 85, 86] rfl (by decide +kernel)
set_option maxRecDepth 20000 in
theorem gX6_doSet_X6_isSettingOf : GoodIn wsX6_doSet (wsV RX6 67 RX6 yX6_isSettingOf wsX6_isSettingOf) := goodIn_app (goodIn_of _ (by decide +kernel)) ggX6_doSet_X6_isSettingOf
set_option maxRecDepth 100000 in
theorem ggX6_doSet_X6_baseAt : GoodIn wsX6_doSet wsX6_baseAt := goodIn_r _ [68, 21, 22, 23, 4, 24, 1, 77, 78, 79, 80, 81, 82, 83, 84, 85, 86] rfl (by decide +kernel)
set_option maxRecDepth 20000 in
theorem gX6_doSet_X6_baseAt : GoodIn wsX6_doSet (wsV RX6 48 RX6 yX6_baseAt wsX6_baseAt) := goodIn_app (goodIn_of _ (by decide +kernel)) ggX6_doSet_X6_baseAt
set_option maxRecDepth 100000 in
theorem ggX6_doSet_X6_settingBelow : GoodIn wsX6_doSet wsX6_settingBelow := goodIn_r _ [52, 53, 54, 55, 4, 56, 37, 38, 39, 40, 41, 42, 43, 44, 1, 77, 78, 79, 80, 81, 82, 83, 84, 85, 86] rfl (by decide +kernel)
set_option maxRecDepth 20000 in
theorem gX6_doSet_X6_settingBelow : GoodIn wsX6_doSet (wsV RX6 73 RX6 yX6_settingBelow wsX6_settingBelow) := goodIn_app (goodIn_of _ (by decide +kernel)) ggX6_doSet_X6_settingBelow
set_option maxRecDepth 100000 in
theorem ggX6_doSet_X6_of : GoodIn wsX6_doSet wsX6_of := goodIn_r _ [44, 1, 77, 78, 79, 80, 81, 82, 83, 84, 85, 86] rfl (by decide +kernel)
set_option maxRecDepth 20000 in
theorem gX6_doSet_X6_of : GoodIn wsX6_doSet (wsV RX6 51 RX6 yX6_of wsX6_of) := goodIn_app (goodIn_of _ (by decide +kernel)) ggX6_doSet_X6_of
set_option maxRecDepth 100000 in
theorem ggX6_doSet_X6_make : GoodIn wsX6_doSet wsX6_make := goodIn_r _ [76, 1, 77, 78, 79, 80, 81, 82, 83, 84, 85, 86] rfl (by decide +kernel)
set_option maxRecDepth 20000 in
theorem gX6_doSet_X6_make : GoodIn wsX6_doSet (wsV RX6 103 RX6 yX6_make wsX6_make) := goodIn_app (goodIn_of _ (by decide +kernel)) ggX6_doSet_X6_make
set_option maxRecDepth 100000 in
theorem ggX6_set_X6_begin : GoodIn wsX6_set wsX6_begin := goodIn_r _ [5, 6, 7, 92, 93, 94, 95, 96, 97, 98, 99, 100, 101] rfl (by decide +kernel)
set_option maxRecDepth 20000 in
theorem gX6_set_X6_begin : GoodIn wsX6_set (wsV RX6 83 RX6 yX6_begin wsX6_begin) := goodIn_app (goodIn_of _ (by decide +kernel)) ggX6_set_X6_begin
set_option maxRecDepth 100000 in
theorem ggX6_set_X6_doSet : GoodIn wsX6_set wsX6_doSet := goodIn_r _ [11, 7, 12, 13, 4, 14, 15, 16, 17, 18, 19, 20, 21, 22, 23, 24, 25, 26, 27, 28, 29, 30, 31, 32, 33, 34, 35, 36, 37, 38, 39, 40, 41, 42, 43, 44, 45, 46, 47, 48, 49, 50, 51, 52, 53, 54, 55, 56, 57, 58, 59, 60, 61, 62, 63, 64, 65, 66, 67, 68, 69, 70, 71, 72, 73, 74, 75, 76, 77, 78, 79, 80, 81, 82, 83, 84, 85, 92, 93, 94, 95, 96, 97, 98, 99, 100, 101] rfl (by decide +kernel)
set_option maxRecDepth 20000 in
theorem gX6_set_X6_doSet : GoodIn wsX6_set (wsV RX6 131 RX6 yX6_doSet wsX6_doSet) := goodIn_app (goodIn_of _ (by decide +kernel)) ggX6_set_X6_doSet
set_option maxRecDepth 100000 in
theorem ggX6_set_X6_done : GoodIn wsX6_set wsX6_done := goodIn_r _ [89, 90, 91, 6, 92, 93, 94, 95, 96, 97, 98, 99, 100, 101] rfl (by decide +kernel)
set_option maxRecDepth 20000 in
theorem gX6_set_X6_done : GoodIn wsX6_set (wsV RX6 90 RX6 yX6_done wsX6_done) := goodIn_app (goodIn_of _ (by decide +kernel)) ggX6_set_X6_done
set_option maxRecDepth 100000 in
theorem ggX6_acceptAlone_X6_of : GoodIn wsX6_acceptAlone wsX6_of := goodIn_r _ [6, 1, 43, 44, 45, 46, 47, 48, 49, 50, 51, 52] rfl (by decide +kernel)
set_option maxRecDepth 20000 in
theorem gX6_acceptAlone_X6_of : GoodIn wsX6_acceptAlone (wsV RX6 51 RX6 yX6_of wsX6_of) := goodIn_app (goodIn_of _ (by decide +kernel)) ggX6_acceptAlone_X6_of
set_option maxRecDepth 100000 in
theorem ggX6_acceptAlone_X6_placeOf : GoodIn wsX6_acceptAlone wsX6_placeOf := goodIn_r _ [10, 11, 12, 13, 5, 14, 1, 15, 16, 17, 18, 19, 20, 21, 22, 43, 44, 45, 46, 47, 48, 49, 50, 51, 52] rfl (by decide +kernel)
set_option maxRecDepth 20000 in
theorem gX6_acceptAlone_X6_placeOf : GoodIn wsX6_acceptAlone (wsV RX6 70 RX6 yX6_placeOf wsX6_placeOf) := goodIn_app (goodIn_of _ (by decide +kernel)) ggX6_acceptAlone_X6_placeOf
set_option maxRecDepth 100000 in
theorem ggX6_acceptAlone_X6_baseAt : GoodIn wsX6_acceptAlone wsX6_baseAt := goodIn_r _ [26, 19, 20, 21, 5, 22, 1, 43, 44, 45, 46, 47, 48, 49, 50, 51, 52] rfl (by decide +kernel)
set_option maxRecDepth 20000 in
theorem gX6_acceptAlone_X6_baseAt : GoodIn wsX6_acceptAlone (wsV RX6 48 RX6 yX6_baseAt wsX6_baseAt) := goodIn_app (goodIn_of _ (by decide +kernel)) ggX6_acceptAlone_X6_baseAt
set_option maxRecDepth 100000 in
theorem ggX6_acceptAlone_X6_dissolveAt : GoodIn wsX6_acceptAlone wsX6_dissolveAt := goodIn_r _ [30, 1, 31, 32, 33, 5, 34, 2, 3, 4, 6, 35, 36, 37, 38, 43, 44, 45, 46, 47, 48, 49, 50, 51, 52] rfl (by decide +kernel)
set_option maxRecDepth 20000 in
theorem gX6_acceptAlone_X6_dissolveAt : GoodIn wsX6_acceptAlone (wsV RX6 114 RX6 yX6_dissolveAt wsX6_dissolveAt) := goodIn_app (goodIn_of _ (by decide +kernel)) ggX6_acceptAlone_X6_dissolveAt
set_option maxRecDepth 100000 in
theorem ggX6_acceptAlone_X6_takeLine : GoodIn wsX6_acceptAlone wsX6_takeLine := goodIn_r _ [42, 1, 11, 12, 13, 5, 14, 43, 44, 45, 46, 47, 48, 49, 50, 51, 52] rfl (by decide +kernel)
set_option maxRecDepth 20000 in
theorem gX6_acceptAlone_X6_takeLine : GoodIn wsX6_acceptAlone (wsV RX6 118 RX6 yX6_takeLine wsX6_takeLine) := goodIn_app (goodIn_of _ (by decide +kernel)) ggX6_acceptAlone_X6_takeLine
set_option maxRecDepth 100000 in
theorem ggX6_acceptWith_X6_rests : GoodIn wsX6_acceptWith wsX6_rests := goodIn_r _ [6, 7, 8, 9, 5, 10, 11, 12, 13, 14, 1, 15, 16, 17, 18, 19, 20, 21, 22, 55, 56, 57, 58, 59, 60, 61, 62, 63, 64] rfl (by decide +kernel)
set_option maxRecDepth 20000 in
theorem gX6_acceptWith_X6_rests : GoodIn wsX6_acceptWith (wsV RX6 135 RX6 yX6_rests wsX6_rests) := goodIn_app (goodIn_of _ (by decide +kernel)) ggX6_acceptWith_X6_rests
set_option maxRecDepth 100000 in
theorem ggX6_acceptWith_X6_acceptAlone : GoodIn wsX6_acceptWith wsX6_acceptAlone := goodIn_r _ [26, 1, 11, 12, 13, 5, 14, 27, 28, 29, 30, 31, 32, 33, 34, 35, 36, 37, 38, 39, 40, 41, 42, 43, 44, 45, 46, 47, 48, 49, 50, 7, 8, 9, 10, 19, 20, 21, 22, 51, 52, 53, 54, 55, 56, 57, 58, 59, 60, 61, 62, 63, 64] rfl (by decide +kernel)
set_option maxRecDepth 20000 in
theorem gX6_acceptWith_X6_acceptAlone : GoodIn wsX6_acceptWith (wsV RX6 138 RX6 yX6_acceptAlone wsX6_acceptAlone) := goodIn_app (goodIn_of _ (by decide +kernel)) ggX6_acceptWith_X6_acceptAlone
set_option maxRecDepth 100000 in
theorem ggX6_rejectWith_X6_rests : GoodIn wsX6_rejectWith wsX6_rests := goodIn_r _ [6, 7, 8, 9, 5, 10, 11, 12, 13, 14, 1, 15, 16, 17, 18, 19, 20, 21, 22, 43, 44, 45, 46, 47, 48, 49, 50, 51, 52] rfl (by decide +kernel)
set_option maxRecDepth 20000 in
theorem gX6_rejectWith_X6_rests : GoodIn wsX6_rejectWith (wsV RX6 135 RX6 yX6_rests wsX6_rests) := goodIn_app (goodIn_of _ (by decide +kernel)) ggX6_rejectWith_X6_rests
set_option maxRecDepth 100000 in
theorem ggX6_rejectWith_X6_of : GoodIn wsX6_rejectWith wsX6_of := goodIn_r _ [14, 1, 43, 44, 45, 46, 47, 48, 49, 50, 51, 52] rfl (by decide +kernel)
set_option maxRecDepth 20000 in
theorem gX6_rejectWith_X6_of : GoodIn wsX6_rejectWith (wsV RX6 51 RX6 yX6_of wsX6_of) := goodIn_app (goodIn_of _ (by decide +kernel)) ggX6_rejectWith_X6_of
set_option maxRecDepth 100000 in
theorem ggX6_rejectWith_X6_placeOf : GoodIn wsX6_rejectWith wsX6_placeOf := goodIn_r _ [26, 27, 28, 29, 5, 30, 1, 31, 32, 33, 34, 35, 36, 37, 38, 43, 44, 45, 46, 47, 48, 49, 50, 51, 52] rfl (by decide +kernel)
set_option maxRecDepth 20000 in
theorem gX6_rejectWith_X6_placeOf : GoodIn wsX6_rejectWith (wsV RX6 70 RX6 yX6_placeOf wsX6_placeOf) := goodIn_app (goodIn_of _ (by decide +kernel)) ggX6_rejectWith_X6_placeOf
set_option maxRecDepth 100000 in
theorem ggX6_rejectWith_X6_takeLine : GoodIn wsX6_rejectWith wsX6_takeLine := goodIn_r _ [42, 1, 27, 28, 29, 5, 30, 43, 44, 45, 46, 47, 48, 49, 50, 51, 52] rfl (by decide +kernel)
set_option maxRecDepth 20000 in
theorem gX6_rejectWith_X6_takeLine : GoodIn wsX6_rejectWith (wsV RX6 118 RX6 yX6_takeLine wsX6_takeLine) := goodIn_app (goodIn_of _ (by decide +kernel)) ggX6_rejectWith_X6_takeLine
set_option maxRecDepth 100000 in
theorem ggX6_settled_X6_noChange : GoodIn wsX6_settled wsX6_noChange := goodIn_r _ [5, 6, 7, 8, 4, 9, 81, 82, 83, 84, 85, 86, 87, 88, 89, 90] rfl (by decide +kernel)
set_option maxRecDepth 20000 in
theorem gX6_settled_X6_noChange : GoodIn wsX6_settled (wsV RX6 142 RX6 yX6_noChange wsX6_noChange) := goodIn_app (goodIn_of _ (by decide +kernel)) ggX6_settled_X6_noChange
set_option maxRecDepth 100000 in
theorem ggX6_settled_X6_isPending : GoodIn wsX6_settled wsX6_isPending := goodIn_r _ [13, 14, 15, 16, 4, 17, 6, 81, 82, 83, 84, 85, 86, 87, 88, 89, 90] rfl (by decide +kernel)
set_option maxRecDepth 20000 in
theorem gX6_settled_X6_isPending : GoodIn wsX6_settled (wsV RX6 54 RX6 yX6_isPending wsX6_isPending) := goodIn_app (goodIn_of _ (by decide +kernel)) ggX6_settled_X6_isPending
set_option maxRecDepth 100000 in
theorem ggX6_settled_X6_begin : GoodIn wsX6_settled wsX6_begin := goodIn_r _ [21, 22, 6, 81, 82, 83, 84, 85, 86, 87, 88, 89, 90] rfl (by decide +kernel)
set_option maxRecDepth 20000 in
theorem gX6_settled_X6_begin : GoodIn wsX6_settled (wsV RX6 83 RX6 yX6_begin wsX6_begin) := goodIn_app (goodIn_of _ (by decide +kernel)) ggX6_settled_X6_begin
set_option maxRecDepth 100000 in
theorem ggX6_settled_X6_acceptWith : GoodIn wsX6_settled wsX6_acceptWith := goodIn_r _ [26, 6, 27, 28, 29, 4, 30, 10, 11, 12, 13, 14, 15, 16, 17, 31, 32, 33, 34, 35, 36, 37, 38, 39, 40, 41, 42, 43, 44, 45, 46, 47, 48, 49, 50, 51, 52, 53, 54, 55, 56, 57, 58, 59, 60, 61, 62, 63, 64, 65, 66, 67, 68, 69, 70, 81, 82, 83, 84, 85, 86, 87, 88, 89, 90] rfl (by decide +kernel)
set_option maxRecDepth 20000 in
theorem gX6_settled_X6_acceptWith : GoodIn wsX6_settled (wsV RX6 145 RX6 yX6_acceptWith wsX6_acceptWith) := goodIn_app (goodIn_of _ (by decide +kernel)) ggX6_settled_X6_acceptWith
set_option maxRecDepth 100000 in
theorem ggX6_settled_X6_rejectWith : GoodIn wsX6_settled wsX6_rejectWith := goodIn_r _ [74, 6, 27, 28, 29, 4, 30, 10, 11, 12, 13, 14, 15, 16, 17, 31, 32, 33, 34, 35, 36, 37, 38, 43, 44, 45, 46, 47, 48, 49, 50, 51, 52, 53, 54, 55, 56, 57, 58, 67, 68, 69, 70, 81, 82, 83, 84, 85, 86, 87, 88, 89, 90] rfl (by decide +kernel)
set_option maxRecDepth 20000 in
theorem gX6_settled_X6_rejectWith : GoodIn wsX6_settled (wsV RX6 148 RX6 yX6_rejectWith wsX6_rejectWith) := goodIn_app (goodIn_of _ (by decide +kernel)) ggX6_settled_X6_rejectWith
set_option maxRecDepth 100000 in
theorem ggX6_settled_X6_done : GoodIn wsX6_settled wsX6_done := goodIn_r _ [78, 79, 80, 22, 81, 82, 83, 84, 85, 86, 87, 88, 89, 90] rfl (by decide +kernel)
set_option maxRecDepth 20000 in
theorem gX6_settled_X6_done : GoodIn wsX6_settled (wsV RX6 90 RX6 yX6_done wsX6_done) := goodIn_app (goodIn_of _ (by decide +kernel)) ggX6_settled_X6_done
set_option maxRecDepth 100000 in
theorem ggX6_accept_X6_settled : GoodIn wsX6_accept wsX6_settled := goodIn_r _ [5, 6, 7, 8, 4, 9, 10, 11, 12, 13, 14, 15, 16, 17, 18, 19, 20, 21, 22, 23, 24, 25, 26, 27, 28, 29, 30, 31, 32, 33, 34, 35, 36, 37, 38, 39, 40, 41, 42, 43, 44, 45, 46, 47, 48, 49, 50, 51, 52, 53, 54, 55, 56, 57, 58, 59, 60, 61, 62, 63, 64, 65, 66, 67, 68, 69, 70, 71, 72, 73, 74, 75, 76, 77, 78, 79, 80, 81, 82, 83, 84, 85, 86, 87, 88, 89, 90, 91, 92, 93, 94] rfl (by decide +kernel)
set_option maxRecDepth 20000 in
theorem gX6_accept_X6_settled : GoodIn wsX6_accept (wsV RX6 151 RX6 yX6_settled wsX6_settled) := goodIn_app (goodIn_of _ (by decide +kernel)) ggX6_accept_X6_settled
set_option maxRecDepth 100000 in
theorem ggX6_reject_X6_settled : GoodIn wsX6_reject wsX6_settled := goodIn_r _ [5, 6, 7, 8, 4, 9, 10, 11, 12, 13, 14, 15, 16, 17, 18, 19, 20, 21, 22, 23, 24, 25, 26, 27, 28, 29, 30, 31, 32, 33, 34, 35, 36, 37, 38, 39, 40, 41, 42, 43, 44, 45, 46, 47, 48, 49, 50, 51, 52, 53, 54, 55, 56, 57, 58, 59, 60, 61, 62, 63, 64, 65, 66, 67, 68, 69, 70, 71, 72, 73, 74, 75, 76, 77, 78, 79, 80, 81, 82, 83, 84, 85, 86, 87, 88, 89, 90, 91, 92, 93, 94] rfl (by decide +kernel)
set_option maxRecDepth 20000 in
theorem gX6_reject_X6_settled : GoodIn wsX6_reject (wsV RX6 151 RX6 yX6_settled wsX6_settled) := goodIn_app (goodIn_of _ (by decide +kernel)) ggX6_reject_X6_settled
set_option maxRecDepth 100000 in
theorem ggX6_firstOf_X6_isPending : GoodIn wsX6_firstOf wsX6_isPending := goodIn_r _ [6, 7, 8, 9, 5, 10, 1, 11, 12, 13, 14, 15, 16, 17, 18, 19, 20] rfl (by decide +kernel)
set_option maxRecDepth 20000 in
theorem gX6_firstOf_X6_isPending : GoodIn wsX6_firstOf (wsV RX6 54 RX6 yX6_isPending wsX6_isPending) := goodIn_app (goodIn_of _ (by decide +kernel)) ggX6_firstOf_X6_isPending
set_option maxRecDepth 100000 in
theorem ggX6_firstOf_X6_of : GoodIn wsX6_firstOf wsX6_of := goodIn_r _ [10, 1, 11, 12, 13, 14, 15, 16, 17, 18, 19, 20] rfl (by decide +kernel)
set_option maxRecDepth 20000 in
theorem gX6_firstOf_X6_of : GoodIn wsX6_firstOf (wsV RX6 51 RX6 yX6_of wsX6_of) := goodIn_app (goodIn_of _ (by decide +kernel)) ggX6_firstOf_X6_of
set_option maxRecDepth 100000 in
theorem ggX6_settle_X6_noAuthor : GoodIn wsX6_settle wsX6_noAuthor := goodIn_r _ [4, 5, 6, 3, 7] rfl (by decide +kernel)
set_option maxRecDepth 20000 in
theorem gX6_settle_X6_noAuthor : GoodIn wsX6_settle (va_wsS RX6 93 yX6_noAuthor wsX6_noAuthor) := goodIn_app (goodIn_of _ (by decide +kernel)) ggX6_settle_X6_noAuthor
set_option maxRecDepth 100000 in
theorem ggX6_settle_X6_firstOf : GoodIn wsX6_settle wsX6_firstOf := goodIn_r _ [11, 12, 13, 14, 15, 3, 16, 17, 18, 19, 20, 84, 85, 86, 87, 88, 89, 90, 91, 92, 93] rfl (by decide +kernel)
set_option maxRecDepth 20000 in
theorem gX6_settle_X6_firstOf : GoodIn wsX6_settle (wsV RX6 155 RX6 yX6_firstOf wsX6_firstOf) := goodIn_app (goodIn_of _ (by decide +kernel)) ggX6_settle_X6_firstOf
set_option maxRecDepth 100000 in
theorem ggX6_settle_X6_begin : GoodIn wsX6_settle wsX6_begin := goodIn_r _ [24, 25, 12, 84, 85, 86, 87, 88, 89, 90, 91, 92, 93] rfl (by decide +kernel)
set_option maxRecDepth 20000 in
theorem gX6_settle_X6_begin : GoodIn wsX6_settle (wsV RX6 83 RX6 yX6_begin wsX6_begin) := goodIn_app (goodIn_of _ (by decide +kernel)) ggX6_settle_X6_begin
set_option maxRecDepth 100000 in
theorem ggX6_settle_X6_acceptWith : GoodIn wsX6_settle wsX6_acceptWith := goodIn_r _ [29, 12, 30, 31, 32, 3, 33, 13, 14, 15, 16, 17, 18, 19, 20, 34, 35, 36, 37, 38, 39, 40, 41, 42, 43, 44, 45, 46, 47, 48, 49, 50, 51, 52, 53, 54, 55, 56, 57, 58, 59, 60, 61, 62, 63, 64, 65, 66, 67, 68, 69, 70, 71, 72, 73, 84, 85, 86, 87, 88, 89, 90, 91, 92, 93] rfl (by decide +kernel)
set_option maxRecDepth 20000 in
theorem gX6_settle_X6_acceptWith : GoodIn wsX6_settle (wsV RX6 145 RX6 yX6_acceptWith wsX6_acceptWith) := goodIn_app (goodIn_of _ (by decide +kernel)) ggX6_settle_X6_acceptWith
set_option maxRecDepth 100000 in
theorem ggX6_settle_X6_rejectWith : GoodIn wsX6_settle wsX6_rejectWith := goodIn_r _ [77, 12, 30, 31, 32, 3, 33, 13, 14, 15, 16, 17, 18, 19, 20, 34, 35, 36, 37, 38, 39, 40, 41, 46, 47, 48, 49, 50, 51, 52, 53, 54, 55, 56, 57, 58, 59, 60, 61, 70, 71, 72, 73, 84, 85, 86, 87, 88, 89, 90, 91, 92, 93] rfl (by decide +kernel)
set_option maxRecDepth 20000 in
theorem gX6_settle_X6_rejectWith : GoodIn wsX6_settle (wsV RX6 148 RX6 yX6_rejectWith wsX6_rejectWith) := goodIn_app (goodIn_of _ (by decide +kernel)) ggX6_settle_X6_rejectWith
set_option maxRecDepth 100000 in
theorem ggX6_settle_X6_done : GoodIn wsX6_settle wsX6_done := goodIn_r _ [81, 82, 83, 25, 84, 85, 86, 87, 88, 89, 90, 91, 92, 93] rfl (by decide +kernel)
set_option maxRecDepth 20000 in
theorem gX6_settle_X6_done : GoodIn wsX6_settle (wsV RX6 90 RX6 yX6_done wsX6_done) := goodIn_app (goodIn_of _ (by decide +kernel)) ggX6_settle_X6_done
set_option maxRecDepth 100000 in
theorem ggX6_skips_X6_isAt : GoodIn wsX6_skips wsX6_isAt := goodIn_r _ [7, 2, 8, 9, 10, 11, 12, 13, 14, 15, 16, 17, 18, 19] rfl (by decide +kernel)
set_option maxRecDepth 20000 in
theorem gX6_skips_X6_isAt : GoodIn wsX6_skips (wsV RX6 168 RX6 yX6_isAt wsX6_isAt) := goodIn_app (goodIn_of _ (by decide +kernel)) ggX6_skips_X6_isAt
set_option maxRecDepth 100000 in
theorem ggX6_number_X6_isAt : GoodIn wsX6_number wsX6_isAt := goodIn_r _ [8, 1, 9, 3, 10, 11, 12, 13, 14, 15, 16, 17, 18, 19] rfl (by decide +kernel)
set_option maxRecDepth 20000 in
theorem gX6_number_X6_isAt : GoodIn wsX6_number (wsV RX6 168 RX6 yX6_isAt wsX6_isAt) := goodIn_app (goodIn_of _ (by decide +kernel)) ggX6_number_X6_isAt
set_option maxRecDepth 100000 in
theorem ggX6_readOrder_X6_skips : GoodIn wsX6_readOrder wsX6_skips := goodIn_r _ [8, 2, 9, 10, 11, 12, 7, 13, 14, 15, 20, 21, 22, 23, 24, 25, 26, 27, 28, 29] rfl (by decide +kernel)
set_option maxRecDepth 20000 in
theorem gX6_readOrder_X6_skips : GoodIn wsX6_readOrder (wsV RX6 175 RX6 yX6_skips wsX6_skips) := goodIn_app (goodIn_of _ (by decide +kernel)) ggX6_readOrder_X6_skips
set_option maxRecDepth 100000 in
theorem ggX6_readOrder_X6_number : GoodIn wsX6_readOrder wsX6_number := goodIn_r _ [19, 9, 2, 15, 10, 11, 12, 7, 13, 14, 20, 21, 22, 23, 24, 25, 26, 27, 28, 29] rfl (by decide +kernel)
set_option maxRecDepth 20000 in
theorem gX6_readOrder_X6_number : GoodIn wsX6_readOrder (wsV RX6 179 RX6 yX6_number wsX6_number) := goodIn_app (goodIn_of _ (by decide +kernel)) ggX6_readOrder_X6_number
set_option maxRecDepth 100000 in
theorem ggX6_carryOut_X6_doSet : GoodIn wsX6_carryOut wsX6_doSet := goodIn_r _ [6, 7, 8, 9, 5, 10, 11, 12, 13, 14, 15, 16, 17, 18, 19, 20, 21, 22, 23, 24, 25, 26, 27, 28, 29, 30, 31, 32, 33, 34, 35, 36, 37, 38, 39, 40, 41, 42, 43, 44, 45, 46, 47, 48, 49, 50, 51, 52, 53, 54, 55, 56, 57, 58, 59, 60, 61, 62, 63, 64, 65, 66, 67, 68, 69, 70, 71, 72, 73, 74, 75, 76, 77, 78, 79, 80, 81, 114, 115, 116, 117, 118, 119, 120, 121, 122, 123] rfl (by decide +kernel)
set_option maxRecDepth 20000 in
theorem gX6_carryOut_X6_doSet : GoodIn wsX6_carryOut (wsV RX6 131 RX6 yX6_doSet wsX6_doSet) := goodIn_app (goodIn_of _ (by decide +kernel)) ggX6_carryOut_X6_doSet
set_option maxRecDepth 100000 in
theorem ggX6_carryOut_X6_doInsert : GoodIn wsX6_carryOut wsX6_doInsert := goodIn_r _ [85, 7, 8, 9, 5, 10, 11, 12, 13, 18, 19, 20, 21, 74, 75, 76, 77, 86, 87, 88, 89, 90, 91, 92, 93, 26, 27, 28, 29, 70, 71, 72, 73, 78, 79, 80, 81, 114, 115, 116, 117, 118, 119, 120, 121, 122, 123] rfl (by decide +kernel)
set_option maxRecDepth 20000 in
theorem gX6_carryOut_X6_doInsert : GoodIn wsX6_carryOut (wsV RX6 107 RX6 yX6_doInsert wsX6_doInsert) := goodIn_app (goodIn_of _ (by decide +kernel)) ggX6_carryOut_X6_doInsert
set_option maxRecDepth 100000 in
theorem ggX6_carryOut_X6_doRemove : GoodIn wsX6_carryOut wsX6_doRemove := goodIn_r _ [97, 7, 8, 9, 5, 10, 11, 12, 13, 14, 15, 16, 17, 18, 19, 20, 21, 22, 23, 24, 25, 26, 27, 28, 29, 74, 75, 76, 77, 98, 99, 100, 101, 42, 43, 44, 45, 46, 47, 48, 49, 102, 103, 104, 105, 106, 107, 108, 109, 30, 31, 32, 33, 34, 35, 36, 37, 38, 39, 40, 41, 110, 111, 112, 113, 78, 79, 80, 81, 114, 115, 116, 117, 118, 119, 120, 121, 122, 123] rfl (by decide +kernel)
set_option maxRecDepth 20000 in
theorem gX6_carryOut_X6_doRemove : GoodIn wsX6_carryOut (wsV RX6 125 RX6 yX6_doRemove wsX6_doRemove) := goodIn_app (goodIn_of _ (by decide +kernel)) ggX6_carryOut_X6_doRemove
set_option maxRecDepth 100000 in
theorem ggX6_run_X6_noAuthor : GoodIn wsX6_run wsX6_noAuthor := goodIn_r _ [8, 9, 10, 7, 11] rfl (by decide +kernel)
set_option maxRecDepth 20000 in
theorem gX6_run_X6_noAuthor : GoodIn wsX6_run (va_wsS RX6 93 yX6_noAuthor wsX6_noAuthor) := goodIn_app (goodIn_of _ (by decide +kernel)) ggX6_run_X6_noAuthor
set_option maxRecDepth 100000 in
theorem ggX6_run_X6_readOrder : GoodIn wsX6_run wsX6_readOrder := goodIn_r _ [15, 3, 2, 16, 17, 18, 19, 7, 20, 1, 21, 22, 23, 24, 4, 25, 26, 27, 28, 29, 150, 151, 152, 153, 154, 155, 156, 157, 158, 159] rfl (by decide +kernel)
set_option maxRecDepth 20000 in
theorem gX6_run_X6_readOrder : GoodIn wsX6_run (wsV RX6 182 RX6 yX6_readOrder wsX6_readOrder) := goodIn_app (goodIn_of _ (by decide +kernel)) ggX6_run_X6_readOrder
set_option maxRecDepth 100000 in
theorem ggX6_run_X6_skips : GoodIn wsX6_run wsX6_skips := goodIn_r _ [20, 2, 1, 21, 22, 23, 7, 24, 4, 25, 150, 151, 152, 153, 154, 155, 156, 157, 158, 159] rfl (by decide +kernel)
set_option maxRecDepth 20000 in
theorem gX6_run_X6_skips : GoodIn wsX6_run (wsV RX6 175 RX6 yX6_skips wsX6_skips) := goodIn_app (goodIn_of _ (by decide +kernel)) ggX6_run_X6_skips
set_option maxRecDepth 100000 in
theorem ggX6_run_X6_begin : GoodIn wsX6_run wsX6_begin := goodIn_r _ [33, 34, 35, 150, 151, 152, 153, 154, 155, 156, 157, 158, 159] rfl (by decide +kernel)
set_option maxRecDepth 20000 in
theorem gX6_run_X6_begin : GoodIn wsX6_run (wsV RX6 83 RX6 yX6_begin wsX6_begin) := goodIn_app (goodIn_of _ (by decide +kernel)) ggX6_run_X6_begin
set_option maxRecDepth 100000 in
theorem ggX6_run_X6_carryOut : GoodIn wsX6_run wsX6_carryOut := goodIn_r _ [39, 16, 40, 41, 42, 7, 43, 35, 5, 6, 8, 9, 10, 11, 44, 45, 46, 47, 48, 49, 50, 51, 52, 53, 54, 55, 56, 57, 58, 59, 60, 61, 62, 63, 64, 65, 66, 67, 68, 69, 70, 71, 72, 73, 74, 75, 76, 77, 78, 79, 80, 81, 82, 83, 84, 85, 86, 87, 88, 89, 90, 91, 92, 93, 94, 95, 96, 97, 98, 99, 100, 101, 102, 103, 104, 105, 106, 107, 108, 109, 110, 111, 112, 113, 114, 115, 116, 117, 118, 119, 120, 121, 122, 123, 124, 125, 126, 127, 128, 129, 130, 131, 132, 133, 134, 135, 136, 137, 138, 139, 140, 141, 142, 143, 150, 151, 152, 153, 154, 155, 156, 157, 158, 159] rfl (by decide +kernel)
set_option maxRecDepth 20000 in
theorem gX6_run_X6_carryOut : GoodIn wsX6_run (wsV RX6 185 RX6 yX6_carryOut wsX6_carryOut) := goodIn_app (goodIn_of _ (by decide +kernel)) ggX6_run_X6_carryOut
set_option maxRecDepth 100000 in
theorem ggX6_run_X6_done : GoodIn wsX6_run wsX6_done := goodIn_r _ [147, 148, 149, 34, 150, 151, 152, 153, 154, 155, 156, 157, 158, 159] rfl (by decide +kernel)
set_option maxRecDepth 20000 in
theorem gX6_run_X6_done : GoodIn wsX6_run (wsV RX6 90 RX6 yX6_done wsX6_done) := goodIn_app (goodIn_of _ (by decide +kernel)) ggX6_run_X6_done
set_option maxRecDepth 100000 in
theorem ggX6_isIn_X6_isDoomed : GoodIn wsX6_isIn wsX6_isDoomed := goodIn_r _ [5, 6, 7, 8, 4, 9, 10, 11, 12, 13, 14, 15, 16, 17, 18, 19, 20, 21, 22, 23, 24, 25, 26, 27, 28, 29, 30, 39, 40, 41, 42, 43, 44, 45, 46, 47, 48] rfl (by decide +kernel)
set_option maxRecDepth 20000 in
theorem gX6_isIn_X6_isDoomed : GoodIn wsX6_isIn (wsV RX6 122 RX6 yX6_isDoomed wsX6_isDoomed) := goodIn_app (goodIn_of _ (by decide +kernel)) ggX6_isIn_X6_isDoomed
set_option maxRecDepth 100000 in
theorem ggX6_isIn_X6_isNew : GoodIn wsX6_isIn wsX6_isNew := goodIn_r _ [34, 35, 36, 37, 4, 38, 10, 11, 12, 13, 14, 15, 16, 17, 18, 19, 20, 21, 22, 23, 24, 25, 26, 27, 28, 29, 30, 39, 40, 41, 42, 43, 44, 45, 46, 47, 48] rfl (by decide +kernel)
set_option maxRecDepth 20000 in
theorem gX6_isIn_X6_isNew : GoodIn wsX6_isIn (wsV RX6 188 RX6 yX6_isNew wsX6_isNew) := goodIn_app (goodIn_of _ (by decide +kernel)) ggX6_isIn_X6_isNew
set_option maxRecDepth 100000 in
theorem ggX6_sizeOf_X6_many : GoodIn wsX6_sizeOf wsX6_many := goodIn_r _ [5, 6, 47, 48, 49, 50, 51, 52, 53, 54, 55, 56] rfl (by decide +kernel)
set_option maxRecDepth 20000 in
theorem gX6_sizeOf_X6_many : GoodIn wsX6_sizeOf (wsV RX6 34 RX6 yX6_many wsX6_many) := goodIn_app (goodIn_of _ (by decide +kernel)) ggX6_sizeOf_X6_many
set_option maxRecDepth 100000 in
theorem ggX6_sizeOf_X6_isIn : GoodIn wsX6_sizeOf wsX6_isIn := goodIn_r _ [10, 11, 12, 13, 4, 14, 15, 16, 17, 18, 19, 20, 21, 22, 6, 23, 24, 25, 26, 27, 28, 29, 30, 31, 32, 33, 34, 35, 36, 37, 38, 39, 40, 41, 42, 43, 44, 45, 46, 47, 48, 49, 50, 51, 52, 53, 54, 55, 56] rfl (by decide +kernel)
set_option maxRecDepth 20000 in
theorem gX6_sizeOf_X6_isIn : GoodIn wsX6_sizeOf (wsV RX6 191 RX6 yX6_isIn wsX6_isIn) := goodIn_app (goodIn_of _ (by decide +kernel)) ggX6_sizeOf_X6_isIn
set_option maxRecDepth 100000 in
theorem ggX6_size_X6_in : GoodIn wsX6_size wsX6_in := goodIn_r _ [4] rfl (by decide +kernel)
set_option maxRecDepth 20000 in
theorem gX6_size_X6_in : GoodIn wsX6_size (va_wsS RX6 41 yX6_in wsX6_in) := goodIn_app (goodIn_of _ (by decide +kernel)) ggX6_size_X6_in
set_option maxRecDepth 100000 in
theorem ggX6_size_X6_sizeOf : GoodIn wsX6_size wsX6_sizeOf := goodIn_r _ [8, 9, 10, 11, 3, 12, 13, 14, 15, 16, 17, 18, 19, 20, 21, 22, 23, 24, 25, 26, 27, 28, 29, 30, 31, 32, 33, 34, 35, 36, 37, 38, 39, 40, 41, 42, 43, 44, 45, 46, 47, 48, 49, 50, 51, 52, 53, 54, 55, 56, 57, 58, 59, 60, 61, 62, 63] rfl (by decide +kernel)
set_option maxRecDepth 20000 in
theorem gX6_size_X6_sizeOf : GoodIn wsX6_size (wsV RX6 194 RX6 yX6_sizeOf wsX6_sizeOf) := goodIn_app (goodIn_of _ (by decide +kernel)) ggX6_size_X6_sizeOf
set_option maxRecDepth 100000 in
theorem ggX6_fullPlace_X6_many : GoodIn wsX6_fullPlace wsX6_many := goodIn_r _ [5, 6, 47, 48, 49, 50, 51, 52, 53, 54, 55, 56] rfl (by decide +kernel)
set_option maxRecDepth 20000 in
theorem gX6_fullPlace_X6_many : GoodIn wsX6_fullPlace (wsV RX6 34 RX6 yX6_many wsX6_many) := goodIn_app (goodIn_of _ (by decide +kernel)) ggX6_fullPlace_X6_many
set_option maxRecDepth 100000 in
theorem ggX6_fullPlace_X6_isIn : GoodIn wsX6_fullPlace wsX6_isIn := goodIn_r _ [10, 11, 12, 13, 4, 14, 15, 16, 17, 18, 19, 20, 21, 22, 6, 23, 24, 25, 26, 27, 28, 29, 30, 31, 32, 33, 34, 35, 36, 37, 38, 39, 40, 41, 42, 43, 44, 45, 46, 47, 48, 49, 50, 51, 52, 53, 54, 55, 56] rfl (by decide +kernel)
set_option maxRecDepth 20000 in
theorem gX6_fullPlace_X6_isIn : GoodIn wsX6_fullPlace (wsV RX6 191 RX6 yX6_isIn wsX6_isIn) := goodIn_app (goodIn_of _ (by decide +kernel)) ggX6_fullPlace_X6_isIn
set_option maxRecDepth 100000 in
theorem ggX6_valueIn_X6_baseAt : GoodIn wsX6_valueIn wsX6_baseAt := goodIn_r _ [6, 7, 8, 9, 5, 10, 1, 47, 48, 49, 50, 51, 52, 53, 54, 55, 56] rfl (by decide +kernel)
set_option maxRecDepth 20000 in
theorem gX6_valueIn_X6_baseAt : GoodIn wsX6_valueIn (wsV RX6 48 RX6 yX6_baseAt wsX6_baseAt) := goodIn_app (goodIn_of _ (by decide +kernel)) ggX6_valueIn_X6_baseAt
set_option maxRecDepth 100000 in
theorem ggX6_valueIn_X6_nameAt : GoodIn wsX6_valueIn wsX6_nameAt := goodIn_r _ [14, 1, 7, 8, 9, 5, 10, 47, 48, 49, 50, 51, 52, 53, 54, 55, 56] rfl (by decide +kernel)
set_option maxRecDepth 20000 in
theorem gX6_valueIn_X6_nameAt : GoodIn wsX6_valueIn (wsV RX6 38 RX6 yX6_nameAt wsX6_nameAt) := goodIn_app (goodIn_of _ (by decide +kernel)) ggX6_valueIn_X6_nameAt
set_option maxRecDepth 100000 in
theorem ggX6_valueIn_X6_valueBelow : GoodIn wsX6_valueIn wsX6_valueBelow := goodIn_r _ [18, 19, 20, 21, 5, 22, 23, 24, 25, 26, 27, 28, 29, 30, 31, 32, 33, 34, 1, 35, 36, 37, 38, 39, 40, 41, 42, 43, 44, 45, 46, 11, 12, 13, 14, 7, 8, 9, 10, 2, 3, 4, 6, 47, 48, 49, 50, 51, 52, 53, 54, 55, 56] rfl (by decide +kernel)
set_option maxRecDepth 20000 in
theorem gX6_valueIn_X6_valueBelow : GoodIn wsX6_valueIn (wsV RX6 128 RX6 yX6_valueBelow wsX6_valueBelow) := goodIn_app (goodIn_of _ (by decide +kernel)) ggX6_valueIn_X6_valueBelow
set_option maxRecDepth 100000 in
theorem ggX6_cell_X6_in : GoodIn wsX6_cell wsX6_in := goodIn_r _ [4] rfl (by decide +kernel)
set_option maxRecDepth 20000 in
theorem gX6_cell_X6_in : GoodIn wsX6_cell (va_wsS RX6 41 yX6_in wsX6_in) := goodIn_app (goodIn_of _ (by decide +kernel)) ggX6_cell_X6_in
set_option maxRecDepth 100000 in
theorem ggX6_cell_X6_fullPlace : GoodIn wsX6_cell wsX6_fullPlace := goodIn_r _ [8, 9, 10, 11, 3, 12, 13, 14, 15, 16, 17, 18, 19, 20, 21, 22, 23, 24, 25, 26, 27, 28, 29, 30, 31, 32, 33, 34, 35, 36, 37, 38, 39, 40, 41, 42, 43, 44, 45, 46, 47, 48, 49, 50, 51, 52, 53, 82, 83, 84, 85, 86, 87, 88, 89, 90, 91] rfl (by decide +kernel)
set_option maxRecDepth 20000 in
theorem gX6_cell_X6_fullPlace : GoodIn wsX6_cell (wsV RX6 197 RX6 yX6_fullPlace wsX6_fullPlace) := goodIn_app (goodIn_of _ (by decide +kernel)) ggX6_cell_X6_fullPlace
set_option maxRecDepth 100000 in
theorem ggX6_cell_X6_valueIn : GoodIn wsX6_cell wsX6_valueIn := goodIn_r _ [57, 13, 58, 59, 60, 3, 61, 30, 31, 32, 33, 26, 27, 28, 29, 62, 63, 64, 65, 66, 67, 68, 69, 70, 71, 72, 73, 38, 39, 40, 41, 42, 43, 44, 45, 74, 75, 76, 77, 78, 79, 80, 81, 9, 10, 11, 12, 82, 83, 84, 85, 86, 87, 88, 89, 90, 91] rfl (by decide +kernel)
set_option maxRecDepth 20000 in
theorem gX6_cell_X6_valueIn : GoodIn wsX6_cell (wsV RX6 200 RX6 yX6_valueIn wsX6_valueIn) := goodIn_app (goodIn_of _ (by decide +kernel)) ggX6_cell_X6_valueIn
set_option maxRecDepth 100000 in
theorem ggX6_sum_X6_in : GoodIn wsX6_sum wsX6_in := goodIn_r _ [4] rfl (by decide +kernel)
set_option maxRecDepth 20000 in
theorem gX6_sum_X6_in : GoodIn wsX6_sum (va_wsS RX6 41 yX6_in wsX6_in) := goodIn_app (goodIn_of _ (by decide +kernel)) ggX6_sum_X6_in
set_option maxRecDepth 100000 in
theorem ggX6_sum_X6_many : GoodIn wsX6_sum wsX6_many := goodIn_r _ [8, 9, 78, 79, 80, 81, 82, 83, 84, 85, 86, 87] rfl (by decide +kernel)
set_option maxRecDepth 20000 in
theorem gX6_sum_X6_many : GoodIn wsX6_sum (wsV RX6 34 RX6 yX6_many wsX6_many) := goodIn_app (goodIn_of _ (by decide +kernel)) ggX6_sum_X6_many
set_option maxRecDepth 100000 in
theorem ggX6_sum_X6_isIn : GoodIn wsX6_sum wsX6_isIn := goodIn_r _ [13, 14, 15, 16, 3, 17, 18, 19, 20, 21, 22, 23, 24, 25, 9, 26, 27, 28, 29, 30, 31, 32, 33, 34, 35, 36, 37, 38, 39, 40, 41, 42, 43, 44, 45, 46, 47, 48, 49, 78, 79, 80, 81, 82, 83, 84, 85, 86, 87] rfl (by decide +kernel)
set_option maxRecDepth 20000 in
theorem gX6_sum_X6_isIn : GoodIn wsX6_sum (wsV RX6 191 RX6 yX6_isIn wsX6_isIn) := goodIn_app (goodIn_of _ (by decide +kernel)) ggX6_sum_X6_isIn
set_option maxRecDepth 100000 in
theorem ggX6_sum_X6_valueIn : GoodIn wsX6_sum wsX6_valueIn := goodIn_r _ [53, 9, 54, 55, 56, 3, 57, 26, 27, 28, 29, 22, 23, 24, 25, 58, 59, 60, 61, 62, 63, 64, 65, 66, 67, 68, 69, 34, 35, 36, 37, 38, 39, 40, 41, 70, 71, 72, 73, 74, 75, 76, 77, 5, 6, 7, 8, 78, 79, 80, 81, 82, 83, 84, 85, 86, 87] rfl (by decide +kernel)
set_option maxRecDepth 20000 in
theorem gX6_sum_X6_valueIn : GoodIn wsX6_sum (wsV RX6 200 RX6 yX6_valueIn wsX6_valueIn) := goodIn_app (goodIn_of _ (by decide +kernel)) ggX6_sum_X6_valueIn
set_option maxRecDepth 100000 in
theorem ggX6_placeIn_X6_isIn : GoodIn wsX6_placeIn wsX6_isIn := goodIn_r _ [5, 6, 7, 8, 4, 9, 10, 11, 12, 13, 14, 15, 16, 17, 18, 19, 20, 21, 22, 23, 24, 25, 26, 27, 28, 29, 30, 31, 32, 33, 34, 35, 36, 37, 38, 39, 40, 41, 42, 43, 44, 45, 46, 47, 48, 49, 50, 51, 52] rfl (by decide +kernel)
set_option maxRecDepth 20000 in
theorem gX6_placeIn_X6_isIn : GoodIn wsX6_placeIn (wsV RX6 191 RX6 yX6_isIn wsX6_isIn) := goodIn_app (goodIn_of _ (by decide +kernel)) ggX6_placeIn_X6_isIn
set_option maxRecDepth 100000 in
theorem ggX6_line_X6_noLine : GoodIn wsX6_line wsX6_noLine := goodIn_r _ [6, 7, 8, 5, 9, 10, 11, 12, 13, 1, 62, 63, 64, 65, 66, 67, 68, 69, 70, 71] rfl (by decide +kernel)
set_option maxRecDepth 20000 in
theorem gX6_line_X6_noLine : GoodIn wsX6_line (wsV RX6 110 RX6 yX6_noLine wsX6_noLine) := goodIn_app (goodIn_of _ (by decide +kernel)) ggX6_line_X6_noLine
set_option maxRecDepth 100000 in
theorem ggX6_line_X6_isPending : GoodIn wsX6_line wsX6_isPending := goodIn_r _ [17, 18, 19, 20, 5, 21, 1, 62, 63, 64, 65, 66, 67, 68, 69, 70, 71] rfl (by decide +kernel)
set_option maxRecDepth 20000 in
theorem gX6_line_X6_isPending : GoodIn wsX6_line (wsV RX6 54 RX6 yX6_isPending wsX6_isPending) := goodIn_app (goodIn_of _ (by decide +kernel)) ggX6_line_X6_isPending
set_option maxRecDepth 100000 in
theorem ggX6_line_X6_of : GoodIn wsX6_line wsX6_of := goodIn_r _ [21, 1, 62, 63, 64, 65, 66, 67, 68, 69, 70, 71] rfl (by decide +kernel)
set_option maxRecDepth 20000 in
theorem gX6_line_X6_of : GoodIn wsX6_line (wsV RX6 51 RX6 yX6_of wsX6_of) := goodIn_app (goodIn_of _ (by decide +kernel)) ggX6_line_X6_of
set_option maxRecDepth 100000 in
theorem ggX6_line_X6_nameAt : GoodIn wsX6_line wsX6_nameAt := goodIn_r _ [25, 1, 26, 27, 28, 5, 29, 62, 63, 64, 65, 66, 67, 68, 69, 70, 71] rfl (by decide +kernel)
set_option maxRecDepth 20000 in
theorem gX6_line_X6_nameAt : GoodIn wsX6_line (wsV RX6 38 RX6 yX6_nameAt wsX6_nameAt) := goodIn_app (goodIn_of _ (by decide +kernel)) ggX6_line_X6_nameAt
set_option maxRecDepth 100000 in
theorem ggX6_line_X6_isAtLine : GoodIn wsX6_line wsX6_isAtLine := goodIn_r _ [33, 18, 19, 20, 5, 21, 1, 62, 63, 64, 65, 66, 67, 68, 69, 70, 71] rfl (by decide +kernel)
set_option maxRecDepth 20000 in
theorem gX6_line_X6_isAtLine : GoodIn wsX6_line (wsV RX6 80 RX6 yX6_isAtLine wsX6_isAtLine) := goodIn_app (goodIn_of _ (by decide +kernel)) ggX6_line_X6_isAtLine
set_option maxRecDepth 100000 in
theorem ggX6_line_X6_insertionOf : GoodIn wsX6_line wsX6_insertionOf := goodIn_r _ [37, 22, 23, 24, 5, 25, 1, 26, 27, 28, 29, 38, 39, 40, 41, 14, 15, 16, 17, 18, 19, 20, 21, 62, 63, 64, 65, 66, 67, 68, 69, 70, 71] rfl (by decide +kernel)
set_option maxRecDepth 20000 in
theorem gX6_line_X6_insertionOf : GoodIn wsX6_line (wsV RX6 61 RX6 yX6_insertionOf wsX6_insertionOf) := goodIn_app (goodIn_of _ (by decide +kernel)) ggX6_line_X6_insertionOf
set_option maxRecDepth 100000 in
theorem ggX6_line_X6_removalOf : GoodIn wsX6_line wsX6_removalOf := goodIn_r _ [45, 22, 23, 24, 5, 25, 1, 26, 27, 28, 29, 38, 39, 40, 41, 14, 15, 16, 17, 18, 19, 20, 21, 62, 63, 64, 65, 66, 67, 68, 69, 70, 71] rfl (by decide +kernel)
set_option maxRecDepth 20000 in
theorem gX6_line_X6_removalOf : GoodIn wsX6_line (wsV RX6 64 RX6 yX6_removalOf wsX6_removalOf) := goodIn_app (goodIn_of _ (by decide +kernel)) ggX6_line_X6_removalOf
set_option maxRecDepth 100000 in
theorem ggX6_line_X6_placeIn : GoodIn wsX6_line wsX6_placeIn := goodIn_r _ [49, 50, 51, 52, 5, 53, 54, 55, 56, 57, 42, 43, 44, 45, 22, 23, 24, 25, 1, 26, 27, 28, 29, 38, 39, 40, 41, 14, 15, 16, 17, 18, 19, 20, 21, 58, 59, 60, 61, 34, 35, 36, 37, 62, 63, 64, 65, 66, 67, 68, 69, 70, 71] rfl (by decide +kernel)
set_option maxRecDepth 20000 in
theorem gX6_line_X6_placeIn : GoodIn wsX6_line (wsV RX6 203 RX6 yX6_placeIn wsX6_placeIn) := goodIn_app (goodIn_of _ (by decide +kernel)) ggX6_line_X6_placeIn
set_option maxRecDepth 100000 in
theorem ggX6_setting_X6_noLine : GoodIn wsX6_setting wsX6_noLine := goodIn_r _ [6, 7, 8, 5, 9, 10, 11, 12, 13, 1, 34, 35, 36, 37, 38, 39, 40, 41, 42, 43] rfl (by decide +kernel)
set_option maxRecDepth 20000 in
theorem gX6_setting_X6_noLine : GoodIn wsX6_setting (wsV RX6 110 RX6 yX6_noLine wsX6_noLine) := goodIn_app (goodIn_of _ (by decide +kernel)) ggX6_setting_X6_noLine
set_option maxRecDepth 100000 in
theorem ggX6_setting_X6_nameAt : GoodIn wsX6_setting wsX6_nameAt := goodIn_r _ [17, 1, 18, 19, 20, 5, 21, 34, 35, 36, 37, 38, 39, 40, 41, 42, 43] rfl (by decide +kernel)
set_option maxRecDepth 20000 in
theorem gX6_setting_X6_nameAt : GoodIn wsX6_setting (wsV RX6 38 RX6 yX6_nameAt wsX6_nameAt) := goodIn_app (goodIn_of _ (by decide +kernel)) ggX6_setting_X6_nameAt
set_option maxRecDepth 100000 in
theorem ggX6_setting_X6_isSettingOf : GoodIn wsX6_setting wsX6_isSettingOf := goodIn_r _ [25, 26, 27, 28, 5, 29, 30, 31, 32, 33, 1, 34, 35, 36, 37, 38, 39, 40, 41, 42, 43] rfl (by decide +kernel)
set_option maxRecDepth 20000 in
theorem gX6_setting_X6_isSettingOf : GoodIn wsX6_setting (wsV RX6 67 RX6 yX6_isSettingOf wsX6_isSettingOf) := goodIn_app (goodIn_of _ (by decide +kernel)) ggX6_setting_X6_isSettingOf
set_option maxRecDepth 100000 in
theorem ggX6_rowPlace_X6_of : GoodIn wsX6_rowPlace wsX6_of := goodIn_r _ [5, 6, 23, 24, 25, 26, 27, 28, 29, 30, 31, 32] rfl (by decide +kernel)
set_option maxRecDepth 20000 in
theorem gX6_rowPlace_X6_of : GoodIn wsX6_rowPlace (wsV RX6 51 RX6 yX6_of wsX6_of) := goodIn_app (goodIn_of _ (by decide +kernel)) ggX6_rowPlace_X6_of
set_option maxRecDepth 100000 in
theorem ggX6_rowPlace_X6_placeOf : GoodIn wsX6_rowPlace wsX6_placeOf := goodIn_r _ [10, 11, 12, 13, 4, 14, 6, 15, 16, 17, 18, 19, 20, 21, 22, 23, 24, 25, 26, 27, 28, 29, 30, 31, 32] rfl (by decide +kernel)
set_option maxRecDepth 20000 in
theorem gX6_rowPlace_X6_placeOf : GoodIn wsX6_rowPlace (wsV RX6 70 RX6 yX6_placeOf wsX6_placeOf) := goodIn_app (goodIn_of _ (by decide +kernel)) ggX6_rowPlace_X6_placeOf
set_option maxRecDepth 100000 in
theorem ggX6_columnPlace_X6_of : GoodIn wsX6_columnPlace wsX6_of := goodIn_r _ [5, 6, 23, 24, 25, 26, 27, 28, 29, 30, 31, 32] rfl (by decide +kernel)
set_option maxRecDepth 20000 in
theorem gX6_columnPlace_X6_of : GoodIn wsX6_columnPlace (wsV RX6 51 RX6 yX6_of wsX6_of) := goodIn_app (goodIn_of _ (by decide +kernel)) ggX6_columnPlace_X6_of
set_option maxRecDepth 100000 in
theorem ggX6_columnPlace_X6_placeOf : GoodIn wsX6_columnPlace wsX6_placeOf := goodIn_r _ [10, 11, 12, 13, 4, 14, 6, 15, 16, 17, 18, 19, 20, 21, 22, 23, 24, 25, 26, 27, 28, 29, 30, 31, 32] rfl (by decide +kernel)
set_option maxRecDepth 20000 in
theorem gX6_columnPlace_X6_placeOf : GoodIn wsX6_columnPlace (wsV RX6 70 RX6 yX6_placeOf wsX6_placeOf) := goodIn_app (goodIn_of _ (by decide +kernel)) ggX6_columnPlace_X6_placeOf
set_option maxRecDepth 100000 in
theorem ggX6_change_X6_noChange : GoodIn wsX6_change wsX6_noChange := goodIn_r _ [6, 1, 7, 8, 5, 9, 70, 71, 72, 73, 74, 75, 76, 77, 78, 79] rfl (by decide +kernel)
set_option maxRecDepth 20000 in
theorem gX6_change_X6_noChange : GoodIn wsX6_change (wsV RX6 142 RX6 yX6_noChange wsX6_noChange) := goodIn_app (goodIn_of _ (by decide +kernel)) ggX6_change_X6_noChange
set_option maxRecDepth 100000 in
theorem ggX6_change_X6_rests : GoodIn wsX6_change wsX6_rests := goodIn_r _ [13, 14, 15, 16, 5, 17, 18, 19, 20, 21, 1, 22, 23, 24, 25, 26, 27, 28, 29, 70, 71, 72, 73, 74, 75, 76, 77, 78, 79] rfl (by decide +kernel)
set_option maxRecDepth 20000 in
theorem gX6_change_X6_rests : GoodIn wsX6_change (wsV RX6 135 RX6 yX6_rests wsX6_rests) := goodIn_app (goodIn_of _ (by decide +kernel)) ggX6_change_X6_rests
set_option maxRecDepth 100000 in
theorem ggX6_change_X6_of : GoodIn wsX6_change wsX6_of := goodIn_r _ [21, 1, 70, 71, 72, 73, 74, 75, 76, 77, 78, 79] rfl (by decide +kernel)
set_option maxRecDepth 20000 in
theorem gX6_change_X6_of : GoodIn wsX6_change (wsV RX6 51 RX6 yX6_of wsX6_of) := goodIn_app (goodIn_of _ (by decide +kernel)) ggX6_change_X6_of
set_option maxRecDepth 100000 in
theorem ggX6_change_X6_rowPlace : GoodIn wsX6_change wsX6_rowPlace := goodIn_r _ [33, 18, 19, 20, 5, 21, 1, 34, 35, 36, 37, 38, 39, 40, 41, 42, 43, 44, 45, 46, 47, 48, 49, 70, 71, 72, 73, 74, 75, 76, 77, 78, 79] rfl (by decide +kernel)
set_option maxRecDepth 20000 in
theorem gX6_change_X6_rowPlace : GoodIn wsX6_change (wsV RX6 206 RX6 yX6_rowPlace wsX6_rowPlace) := goodIn_app (goodIn_of _ (by decide +kernel)) ggX6_change_X6_rowPlace
set_option maxRecDepth 100000 in
theorem ggX6_change_X6_columnPlace : GoodIn wsX6_change wsX6_columnPlace := goodIn_r _ [53, 18, 19, 20, 5, 21, 1, 34, 35, 36, 37, 38, 39, 40, 41, 42, 43, 44, 45, 46, 47, 48, 49, 70, 71, 72, 73, 74, 75, 76, 77, 78, 79] rfl (by decide +kernel)
set_option maxRecDepth 20000 in
theorem gX6_change_X6_columnPlace : GoodIn wsX6_change (wsV RX6 209 RX6 yX6_columnPlace wsX6_columnPlace) := goodIn_app (goodIn_of _ (by decide +kernel)) ggX6_change_X6_columnPlace
set_option maxRecDepth 100000 in
theorem ggX6_change_X6_isPending : GoodIn wsX6_change wsX6_isPending := goodIn_r _ [17, 18, 19, 20, 5, 21, 1, 70, 71, 72, 73, 74, 75, 76, 77, 78, 79] rfl (by decide +kernel)
set_option maxRecDepth 20000 in
theorem gX6_change_X6_isPending : GoodIn wsX6_change (wsV RX6 54 RX6 yX6_isPending wsX6_isPending) := goodIn_app (goodIn_of _ (by decide +kernel)) ggX6_change_X6_isPending
set_option maxRecDepth 100000 in
theorem ggX6_change_X6_valueBelow : GoodIn wsX6_change wsX6_valueBelow := goodIn_r _ [57, 58, 59, 60, 5, 61, 22, 23, 24, 25, 14, 15, 16, 17, 18, 19, 20, 21, 1, 62, 63, 64, 65, 34, 35, 36, 37, 38, 39, 40, 41, 42, 43, 44, 45, 46, 47, 48, 49, 66, 67, 68, 69, 70, 71, 72, 73, 74, 75, 76, 77, 78, 79] rfl (by decide +kernel)
set_option maxRecDepth 20000 in
theorem gX6_change_X6_valueBelow : GoodIn wsX6_change (wsV RX6 128 RX6 yX6_valueBelow wsX6_valueBelow) := goodIn_app (goodIn_of _ (by decide +kernel)) ggX6_change_X6_valueBelow
set_option maxRecDepth 100000 in
theorem ggX6_restsOn_X6_noChange : GoodIn wsX6_restsOn wsX6_noChange := goodIn_r _ [5, 6, 7, 8, 4, 9, 30, 31, 32, 33, 34, 35, 36, 37, 38, 39] rfl (by decide +kernel)
set_option maxRecDepth 20000 in
theorem gX6_restsOn_X6_noChange : GoodIn wsX6_restsOn (wsV RX6 142 RX6 yX6_noChange wsX6_noChange) := goodIn_app (goodIn_of _ (by decide +kernel)) ggX6_restsOn_X6_noChange
set_option maxRecDepth 100000 in
theorem ggX6_restsOn_X6_rests : GoodIn wsX6_restsOn wsX6_rests := goodIn_r _ [13, 14, 15, 16, 4, 17, 18, 19, 20, 21, 6, 22, 23, 24, 25, 26, 27, 28, 29, 30, 31, 32, 33, 34, 35, 36, 37, 38, 39] rfl (by decide +kernel)
set_option maxRecDepth 20000 in
theorem gX6_restsOn_X6_rests : GoodIn wsX6_restsOn (wsV RX6 135 RX6 yX6_rests wsX6_rests) := goodIn_app (goodIn_of _ (by decide +kernel)) ggX6_restsOn_X6_rests
set_option maxRecDepth 100000 in
theorem ggX6_isReadAhead_X6_of : GoodIn wsX6_isReadAhead wsX6_of := goodIn_r _ [5, 6, 31, 32, 33, 34, 35, 36, 37, 38, 39, 40] rfl (by decide +kernel)
set_option maxRecDepth 20000 in
theorem gX6_isReadAhead_X6_of : GoodIn wsX6_isReadAhead (wsV RX6 51 RX6 yX6_of wsX6_of) := goodIn_app (goodIn_of _ (by decide +kernel)) ggX6_isReadAhead_X6_of
set_option maxRecDepth 100000 in
theorem ggX6_isReadAhead_X6_rowPlace : GoodIn wsX6_isReadAhead wsX6_rowPlace := goodIn_r _ [10, 1, 2, 3, 4, 5, 6, 11, 12, 13, 14, 15, 16, 17, 18, 19, 20, 21, 22, 23, 24, 25, 26, 31, 32, 33, 34, 35, 36, 37, 38, 39, 40] rfl (by decide +kernel)
set_option maxRecDepth 20000 in
theorem gX6_isReadAhead_X6_rowPlace : GoodIn wsX6_isReadAhead (wsV RX6 206 RX6 yX6_rowPlace wsX6_rowPlace) := goodIn_app (goodIn_of _ (by decide +kernel)) ggX6_isReadAhead_X6_rowPlace
set_option maxRecDepth 100000 in
theorem ggX6_isReadAhead_X6_columnPlace : GoodIn wsX6_isReadAhead wsX6_columnPlace := goodIn_r _ [30, 1, 2, 3, 4, 5, 6, 11, 12, 13, 14, 15, 16, 17, 18, 19, 20, 21, 22, 23, 24, 25, 26, 31, 32, 33, 34, 35, 36, 37, 38, 39, 40] rfl (by decide +kernel)
set_option maxRecDepth 20000 in
theorem gX6_isReadAhead_X6_columnPlace : GoodIn wsX6_isReadAhead (wsV RX6 209 RX6 yX6_columnPlace wsX6_columnPlace) := goodIn_app (goodIn_of _ (by decide +kernel)) ggX6_isReadAhead_X6_columnPlace
set_option maxRecDepth 100000 in
theorem ggX6_pending_X6_isPending : GoodIn wsX6_pending wsX6_isPending := goodIn_r _ [6, 7, 8, 9, 5, 10, 1, 39, 40, 41, 42, 43, 44, 45, 46, 47, 48] rfl (by decide +kernel)
set_option maxRecDepth 20000 in
theorem gX6_pending_X6_isPending : GoodIn wsX6_pending (wsV RX6 54 RX6 yX6_isPending wsX6_isPending) := goodIn_app (goodIn_of _ (by decide +kernel)) ggX6_pending_X6_isPending
set_option maxRecDepth 100000 in
theorem ggX6_pending_X6_isReadAhead : GoodIn wsX6_pending wsX6_isReadAhead := goodIn_r _ [14, 7, 8, 9, 5, 10, 1, 15, 16, 17, 18, 19, 20, 21, 22, 23, 24, 25, 26, 27, 28, 29, 30, 31, 32, 33, 34, 35, 36, 37, 38, 39, 40, 41, 42, 43, 44, 45, 46, 47, 48] rfl (by decide +kernel)
set_option maxRecDepth 20000 in
theorem gX6_pending_X6_isReadAhead : GoodIn wsX6_pending (wsV RX6 212 RX6 yX6_isReadAhead wsX6_isReadAhead) := goodIn_app (goodIn_of _ (by decide +kernel)) ggX6_pending_X6_isReadAhead
set_option maxRecDepth 100000 in
theorem ggX6_author_X6_noAuthor : GoodIn wsX6_author wsX6_noAuthor := goodIn_r _ [5, 6, 7, 4, 8] rfl (by decide +kernel)
set_option maxRecDepth 20000 in
theorem gX6_author_X6_noAuthor : GoodIn wsX6_author (va_wsS RX6 93 yX6_noAuthor wsX6_noAuthor) := goodIn_app (goodIn_of _ (by decide +kernel)) ggX6_author_X6_noAuthor
set_option maxRecDepth 100000 in
theorem ggX6_author_X6_in : GoodIn wsX6_author wsX6_in := goodIn_r _ [8] rfl (by decide +kernel)
set_option maxRecDepth 20000 in
theorem gX6_author_X6_in : GoodIn wsX6_author (va_wsS RX6 41 yX6_in wsX6_in) := goodIn_app (goodIn_of _ (by decide +kernel)) ggX6_author_X6_in
set_option maxRecDepth 100000 in
theorem ggX6_author_X6_of : GoodIn wsX6_author wsX6_of := goodIn_r _ [12, 1, 13, 14, 15, 16, 17, 18, 19, 20, 21, 22] rfl (by decide +kernel)
set_option maxRecDepth 20000 in
theorem gX6_author_X6_of : GoodIn wsX6_author (wsV RX6 51 RX6 yX6_of wsX6_of) := goodIn_app (goodIn_of _ (by decide +kernel)) ggX6_author_X6_of
set_option maxRecDepth 100000 in
theorem ggX6_count_X6_many : GoodIn wsX6_count wsX6_many := goodIn_r _ [8, 1, 48, 49, 50, 51, 52, 53, 54, 55, 56, 57] rfl (by decide +kernel)
set_option maxRecDepth 20000 in
theorem gX6_count_X6_many : GoodIn wsX6_count (wsV RX6 34 RX6 yX6_many wsX6_many) := goodIn_app (goodIn_of _ (by decide +kernel)) ggX6_count_X6_many
set_option maxRecDepth 100000 in
theorem ggX6_count_X6_isNew : GoodIn wsX6_count wsX6_isNew := goodIn_r _ [12, 13, 14, 15, 7, 16, 17, 18, 19, 20, 1, 21, 22, 23, 24, 25, 26, 27, 28, 29, 30, 31, 32, 33, 34, 35, 36, 48, 49, 50, 51, 52, 53, 54, 55, 56, 57] rfl (by decide +kernel)
set_option maxRecDepth 20000 in
theorem gX6_count_X6_isNew : GoodIn wsX6_count (wsV RX6 188 RX6 yX6_isNew wsX6_isNew) := goodIn_app (goodIn_of _ (by decide +kernel)) ggX6_count_X6_isNew
set_option maxRecDepth 100000 in
theorem ggX6_count_X6_isDoomed : GoodIn wsX6_count wsX6_isDoomed := goodIn_r _ [40, 41, 42, 43, 7, 44, 17, 18, 19, 20, 1, 21, 22, 23, 24, 25, 26, 27, 28, 29, 30, 31, 32, 33, 34, 35, 36, 48, 49, 50, 51, 52, 53, 54, 55, 56, 57] rfl (by decide +kernel)
set_option maxRecDepth 20000 in
theorem gX6_count_X6_isDoomed : GoodIn wsX6_count (wsV RX6 122 RX6 yX6_isDoomed wsX6_isDoomed) := goodIn_app (goodIn_of _ (by decide +kernel)) ggX6_count_X6_isDoomed
set_option maxRecDepth 100000 in
theorem ggX6_count_X6_isPending : GoodIn wsX6_count wsX6_isPending := goodIn_r _ [32, 33, 34, 35, 7, 36, 1, 48, 49, 50, 51, 52, 53, 54, 55, 56, 57] rfl (by decide +kernel)
set_option maxRecDepth 20000 in
theorem gX6_count_X6_isPending : GoodIn wsX6_count (wsV RX6 54 RX6 yX6_isPending wsX6_isPending) := goodIn_app (goodIn_of _ (by decide +kernel)) ggX6_count_X6_isPending
set_option maxRecDepth 100000 in
theorem ggX6_count_X6_of : GoodIn wsX6_count wsX6_of := goodIn_r _ [36, 1, 48, 49, 50, 51, 52, 53, 54, 55, 56, 57] rfl (by decide +kernel)
set_option maxRecDepth 20000 in
theorem gX6_count_X6_of : GoodIn wsX6_count (wsV RX6 51 RX6 yX6_of wsX6_of) := goodIn_app (goodIn_of _ (by decide +kernel)) ggX6_count_X6_of
set_option maxRecDepth 100000 in
theorem ggX6_count_X6_in : GoodIn wsX6_count wsX6_in := goodIn_r _ [47] rfl (by decide +kernel)
set_option maxRecDepth 20000 in
theorem gX6_count_X6_in : GoodIn wsX6_count (va_wsS RX6 41 yX6_in wsX6_in) := goodIn_app (goodIn_of _ (by decide +kernel)) ggX6_count_X6_in
