/-! rows that every walk of the law's methods takes -/
theorem kL_lines : zY yL_lines wsL_lines cL_lines 11 (some .boolean) 1 := ⟨⟨_, rfl⟩, ⟨by decide +kernel, by decide +kernel, by decide +kernel⟩, by decide +kernel⟩
theorem kL_cells : zY yL_cells wsL_cells cL_cells 11 (some .boolean) 1 := ⟨⟨_, rfl⟩, ⟨by decide +kernel, by decide +kernel, by decide +kernel⟩, by decide +kernel⟩
theorem kL_rests : zY yL_rests wsL_rests cL_rests 9 (some .int) 3 := ⟨⟨_, rfl⟩, ⟨by decide +kernel, by decide +kernel, by decide +kernel⟩, by decide +kernel⟩
theorem kL_changes : zY yL_changes wsL_changes cL_changes 11 (some .boolean) 1 := ⟨⟨_, rfl⟩, ⟨by decide +kernel, by decide +kernel, by decide +kernel⟩, by decide +kernel⟩
theorem kL_ahead : zY yL_ahead wsL_ahead cL_ahead 4 (some .boolean) 3 := ⟨⟨_, rfl⟩, ⟨by decide +kernel, by decide +kernel, by decide +kernel⟩, by decide +kernel⟩
theorem kL_inserts : zY yL_inserts wsL_inserts cL_inserts 11 (some .boolean) 4 := ⟨⟨_, rfl⟩, ⟨by decide +kernel, by decide +kernel, by decide +kernel⟩, by decide +kernel⟩
theorem kL_removes : zY yL_removes wsL_removes cL_removes 14 (some .boolean) 4 := ⟨⟨_, rfl⟩, ⟨by decide +kernel, by decide +kernel, by decide +kernel⟩, by decide +kernel⟩
theorem kL_sets : zY yL_sets wsL_sets cL_sets 18 (some .boolean) 4 := ⟨⟨_, rfl⟩, ⟨by decide +kernel, by decide +kernel, by decide +kernel⟩, by decide +kernel⟩
theorem kL_settles : zY yL_settles wsL_settles cL_settles 21 (some .boolean) 3 := ⟨⟨_, rfl⟩, ⟨by decide +kernel, by decide +kernel, by decide +kernel⟩, by decide +kernel⟩
theorem kL_orders : zY yL_orders wsL_orders cL_orders 11 (some .boolean) 4 := ⟨⟨_, rfl⟩, ⟨by decide +kernel, by decide +kernel, by decide +kernel⟩, by decide +kernel⟩
theorem kL_errors : zY yL_errors wsL_errors cL_errors 2 (some .boolean) 1 := ⟨⟨_, rfl⟩, ⟨by decide +kernel, by decide +kernel, by decide +kernel⟩, by decide +kernel⟩
theorem kL_cell : zY yL_cell wsL_cell cL_cell 2 (some .int) 2 := ⟨⟨_, rfl⟩, ⟨by decide +kernel, by decide +kernel, by decide +kernel⟩, by decide +kernel⟩
theorem nd_0_1_2_3_4_5_6_7_8 : va_nd [0, 1, 2, 3, 4, 5, 6, 7, 8] = true := by decide +kernel
theorem nd_0_1_2_3_4_5_6_7_8_9_51 : va_nd [0, 1, 2, 3, 4, 5, 6, 7, 8, 9, 51] = true := by decide +kernel
theorem nd_0_1_2_3_4_5_6_7_8_9_10_11_12_13_14_15_16_17_18_19_20_21_22_23_24_25_26_27_28_29_30_31_32_33_34_35_36_37_38_39_40_41_42_43_44_45_46_47_48_49_50 : va_nd [0, 1, 2, 3, 4, 5, 6, 7, 8, 9, 10, 11, 12, 13, 14, 15, 16, 17, 18, 19, 20, 21, 22, 23, 24, 25, 26, 27, 28, 29, 30, 31, 32, 33, 34, 35, 36, 37, 38, 39, 40, 41, 42, 43, 44, 45, 46, 47, 48, 49, 50] = true := by decide +kernel
theorem nd_0_1_2_3_4_5_6_7_8_9_10_11_12_13_14_15_16_17_18_19_20_21_22_23_24_25_26_27_28_29_30_31_32_33_34_35_36_37_38_39_40_41_42_43_44_45_46_47_48_49_50_51_52 : va_nd [0, 1, 2, 3, 4, 5, 6, 7, 8, 9, 10, 11, 12, 13, 14, 15, 16, 17, 18, 19, 20, 21, 22, 23, 24, 25, 26, 27, 28, 29, 30, 31, 32, 33, 34, 35, 36, 37, 38, 39, 40, 41, 42, 43, 44, 45, 46, 47, 48, 49, 50, 51, 52] = true := by decide +kernel
theorem nd_0_51_52 : va_nd [0, 51, 52] = true := by decide +kernel
