set_option maxRecDepth 100000 in
theorem ggL_lines_X5_size : GoodIn wsL_lines wsX5_size := goodIn_r _ [5, 6, 7, 8, 4, 9, 10, 11, 12, 13, 14, 15, 16, 17, 18, 19, 20, 21, 22, 23, 24, 25, 26, 27, 28, 29, 30, 31, 32, 33, 34, 35, 36, 37, 38, 39, 40, 41, 42, 43, 44, 45, 46, 47, 48, 49, 50, 51, 52, 53, 54, 55, 56, 57, 58, 154, 155, 156, 157, 158, 159, 160, 161, 162, 163, 164, 165] rfl (by decide +kernel)
set_option maxRecDepth 20000 in
theorem gL_lines_X5_size : GoodIn wsL_lines (wsV RL 9 RX5 yX5_size wsX5_size) := goodIn_app (goodIn_of _ (by decide +kernel)) ggL_lines_X5_size
set_option maxRecDepth 100000 in
theorem ggL_lines_X5_line : GoodIn wsL_lines wsX5_line := goodIn_r _ [62, 6, 63, 64, 65, 66, 16, 67, 11, 4, 12, 19, 20, 21, 22, 23, 24, 25, 26, 27, 28, 29, 30, 31, 68, 56, 57, 40, 58, 42, 43, 44, 45, 46, 47, 48, 49, 50, 51, 52, 53, 54, 69, 38, 39, 41, 70, 71, 72, 73, 18, 32, 33, 34, 35, 36, 37, 55, 74, 75, 76, 77, 78, 79, 80, 81, 154, 155, 156, 159, 160, 161, 162, 163, 157, 158, 164, 165] rfl (by decide +kernel)
set_option maxRecDepth 20000 in
theorem gL_lines_X5_line : GoodIn wsL_lines (wsV RL 15 RX5 yX5_line wsX5_line) := goodIn_app (goodIn_of _ (by decide +kernel)) ggL_lines_X5_line
set_option maxRecDepth 100000 in
theorem ggL_lines_X5_change : GoodIn wsL_lines wsX5_change := goodIn_r _ [85, 6, 63, 86, 87, 88, 89, 90, 40, 91, 46, 92, 51, 52, 53, 54, 93, 94, 95, 28, 96, 30, 31, 97, 98, 99, 16, 100, 36, 101, 102, 79, 80, 81, 50, 103, 104, 105, 106, 107, 108, 109, 110, 111, 112, 113, 114, 115, 116, 117, 118, 119, 120, 121, 122, 123, 124, 125, 126, 127, 128, 129, 130, 131, 78, 132, 133, 134, 135, 154, 155, 156, 159, 160, 161, 162, 163, 164, 165, 157, 158] rfl (by decide +kernel)
set_option maxRecDepth 20000 in
theorem gL_lines_X5_change : GoodIn wsL_lines (wsV RL 19 RX5 yX5_change wsX5_change) := goodIn_app (goodIn_of _ (by decide +kernel)) ggL_lines_X5_change
set_option maxRecDepth 100000 in
theorem ggL_lines_X5_count : GoodIn wsL_lines wsX5_count := goodIn_r _ [139, 6, 63, 140, 141, 142, 143, 144, 145, 146, 147, 148, 40, 149, 46, 50, 51, 52, 53, 54, 150, 151, 152, 153, 78, 79, 80, 81, 154, 155, 156, 159, 160, 161, 162, 163, 164, 165, 166, 167, 168, 169, 170, 171, 172, 173, 174, 175, 176] rfl (by decide +kernel)
set_option maxRecDepth 20000 in
theorem gL_lines_X5_count : GoodIn wsL_lines (wsV RL 22 RX5 yX5_count wsX5_count) := goodIn_app (goodIn_of _ (by decide +kernel)) ggL_lines_X5_count
set_option maxRecDepth 100000 in
theorem ggL_cells_X5_size : GoodIn wsL_cells wsX5_size := goodIn_r _ [6, 7, 8, 9, 5, 10, 11, 12, 13, 14, 15, 16, 17, 18, 19, 20, 21, 22, 23, 24, 25, 26, 27, 28, 29, 30, 31, 32, 33, 34, 35, 36, 37, 38, 39, 40, 41, 42, 43, 44, 45, 46, 47, 48, 49, 50, 51, 52, 53, 54, 55, 56, 57, 58, 59, 188, 189, 190, 191, 192, 193, 194, 195, 196, 197, 198, 199] rfl (by decide +kernel)
set_option maxRecDepth 20000 in
theorem gL_cells_X5_size : GoodIn wsL_cells (wsV RL 9 RX5 yX5_size wsX5_size) := goodIn_app (goodIn_of _ (by decide +kernel)) ggL_cells_X5_size
set_option maxRecDepth 100000 in
theorem ggL_cells_X5_setting : GoodIn wsL_cells wsX5_setting := goodIn_r _ [63, 7, 64, 65, 66, 67, 17, 68, 12, 5, 13, 20, 21, 22, 23, 24, 25, 26, 27, 28, 29, 30, 31, 32, 69, 70, 71, 41, 72, 47, 73, 74, 75, 76, 55, 188, 189, 190, 193, 194, 195, 196, 197, 191, 192, 198, 199] rfl (by decide +kernel)
set_option maxRecDepth 20000 in
theorem gL_cells_X5_setting : GoodIn wsL_cells (wsV RL 26 RX5 yX5_setting wsX5_setting) := goodIn_app (goodIn_of _ (by decide +kernel)) ggL_cells_X5_setting
set_option maxRecDepth 100000 in
theorem ggL_cells_X5_change : GoodIn wsL_cells wsX5_change := goodIn_r _ [80, 7, 64, 81, 82, 83, 84, 85, 41, 86, 47, 87, 52, 53, 54, 55, 88, 89, 90, 29, 91, 31, 32, 92, 93, 94, 17, 95, 37, 96, 97, 98, 99, 100, 51, 101, 102, 103, 104, 105, 106, 107, 108, 109, 110, 111, 112, 73, 74, 75, 76, 113, 114, 115, 116, 117, 118, 119, 120, 121, 122, 123, 124, 125, 126, 127, 128, 129, 130, 188, 189, 190, 193, 194, 195, 196, 197, 198, 199, 191, 192] rfl (by decide +kernel)
set_option maxRecDepth 20000 in
theorem gL_cells_X5_change : GoodIn wsL_cells (wsV RL 19 RX5 yX5_change wsX5_change) := goodIn_app (goodIn_of _ (by decide +kernel)) ggL_cells_X5_change
set_option maxRecDepth 100000 in
theorem ggL_cells_X5_cell : GoodIn wsL_cells wsX5_cell := goodIn_r _ [134, 7, 135, 136, 137, 17, 138, 19, 20, 21, 22, 23, 24, 25, 26, 27, 28, 29, 30, 31, 32, 33, 34, 35, 36, 37, 38, 39, 40, 41, 42, 43, 44, 45, 46, 47, 48, 49, 50, 51, 52, 53, 54, 55, 56, 57, 58, 59, 139, 140, 141, 142, 113, 114, 115, 116, 117, 101, 102, 103, 104, 105, 106, 107, 108, 109, 110, 111, 112, 73, 74, 75, 76, 96, 188, 189, 190, 191, 192, 193, 194, 195, 196, 197, 198, 199] rfl (by decide +kernel)
set_option maxRecDepth 20000 in
theorem gL_cells_X5_cell : GoodIn wsL_cells (wsV RL 29 RX5 yX5_cell wsX5_cell) := goodIn_app (goodIn_of _ (by decide +kernel)) ggL_cells_X5_cell
set_option maxRecDepth 100000 in
theorem ggL_cells_X5_line : GoodIn wsL_cells wsX5_line := goodIn_r _ [146, 7, 64, 65, 66, 67, 17, 68, 12, 5, 13, 20, 21, 22, 23, 24, 25, 26, 27, 28, 29, 30, 31, 32, 147, 57, 58, 41, 59, 43, 44, 45, 46, 47, 48, 49, 50, 51, 52, 53, 54, 55, 148, 39, 40, 42, 149, 150, 151, 152, 19, 33, 34, 35, 36, 37, 38, 56, 153, 154, 155, 156, 126, 98, 99, 100, 188, 189, 190, 193, 194, 195, 196, 197, 191, 192, 198, 199] rfl (by decide +kernel)
set_option maxRecDepth 20000 in
theorem gL_cells_X5_line : GoodIn wsL_cells (wsV RL 15 RX5 yX5_line wsX5_line) := goodIn_app (goodIn_of _ (by decide +kernel)) ggL_cells_X5_line
set_option maxRecDepth 100000 in
theorem ggL_cells_X5_count : GoodIn wsL_cells wsX5_count := goodIn_r _ [160, 7, 64, 161, 162, 163, 164, 165, 166, 167, 168, 169, 41, 170, 47, 51, 52, 53, 54, 55, 171, 172, 173, 174, 126, 98, 99, 100, 188, 189, 190, 193, 194, 195, 196, 197, 198, 199, 200, 201, 202, 203, 204, 205, 206, 207, 208, 209, 210] rfl (by decide +kernel)
set_option maxRecDepth 20000 in
theorem gL_cells_X5_count : GoodIn wsL_cells (wsV RL 22 RX5 yX5_count wsX5_count) := goodIn_app (goodIn_of _ (by decide +kernel)) ggL_cells_X5_count
set_option maxRecDepth 100000 in
theorem ggL_cells_X5_sum : GoodIn wsL_cells wsX5_sum := goodIn_r _ [178, 7, 8, 9, 5, 10, 179, 180, 181, 17, 182, 24, 19, 26, 27, 28, 29, 30, 31, 32, 33, 34, 35, 36, 37, 38, 39, 40, 41, 42, 43, 44, 45, 46, 47, 48, 49, 50, 51, 52, 53, 54, 55, 56, 57, 58, 59, 183, 184, 185, 186, 25, 187, 140, 141, 142, 113, 114, 115, 116, 117, 101, 102, 103, 104, 105, 106, 107, 108, 109, 110, 111, 112, 73, 74, 75, 76, 96, 188, 189, 190, 193, 194, 195, 196, 197, 191, 192, 198, 199] rfl (by decide +kernel)
set_option maxRecDepth 20000 in
theorem gL_cells_X5_sum : GoodIn wsL_cells (wsV RL 32 RX5 yX5_sum wsX5_sum) := goodIn_app (goodIn_of _ (by decide +kernel)) ggL_cells_X5_sum
set_option maxRecDepth 100000 in
theorem ggL_rests_X5_change : GoodIn wsL_rests wsX5_change := goodIn_r _ [5, 6, 7, 8, 9, 10, 11, 12, 13, 14, 15, 16, 17, 18, 19, 20, 21, 22, 23, 24, 25, 26, 27, 28, 29, 30, 31, 32, 33, 34, 35, 36, 37, 38, 39, 40, 41, 42, 43, 44, 45, 46, 47, 48, 49, 50, 51, 52, 53, 54, 55, 56, 57, 58, 59, 60, 61, 62, 63, 64, 65, 66, 67, 68, 69, 70, 71, 72, 73, 74, 75, 76, 77, 78, 79, 80, 81, 82, 83, 84, 85] rfl (by decide +kernel)
set_option maxRecDepth 20000 in
theorem gL_rests_X5_change : GoodIn wsL_rests (wsV RL 19 RX5 yX5_change wsX5_change) := goodIn_app (goodIn_of _ (by decide +kernel)) ggL_rests_X5_change
set_option maxRecDepth 100000 in
theorem ggL_changes_X5_count : GoodIn wsL_changes wsX5_count := goodIn_r _ [6, 7, 8, 9, 10, 11, 12, 13, 14, 15, 16, 17, 18, 19, 20, 21, 22, 23, 24, 25, 26, 27, 28, 29, 30, 31, 32, 33, 167, 168, 169, 170, 171, 172, 173, 174, 175, 176, 177, 178, 179, 180, 181, 182, 183, 184, 185, 186, 187] rfl (by decide +kernel)
set_option maxRecDepth 20000 in
theorem gL_changes_X5_count : GoodIn wsL_changes (wsV RL 22 RX5 yX5_count wsX5_count) := goodIn_app (goodIn_of _ (by decide +kernel)) ggL_changes_X5_count
set_option maxRecDepth 100000 in
theorem ggL_changes_X5_change : GoodIn wsL_changes wsX5_change := goodIn_r _ [37, 7, 8, 38, 39, 40, 41, 42, 18, 43, 20, 44, 22, 23, 24, 25, 45, 46, 47, 48, 49, 50, 51, 52, 53, 54, 55, 56, 57, 58, 59, 31, 32, 33, 21, 60, 61, 62, 63, 64, 65, 66, 67, 68, 69, 70, 71, 72, 73, 74, 75, 76, 77, 78, 79, 80, 81, 82, 83, 84, 85, 86, 87, 88, 30, 89, 90, 91, 92, 167, 168, 169, 170, 171, 172, 173, 174, 175, 176, 188, 189] rfl (by decide +kernel)
set_option maxRecDepth 20000 in
theorem gL_changes_X5_change : GoodIn wsL_changes (wsV RL 19 RX5 yX5_change wsX5_change) := goodIn_app (goodIn_of _ (by decide +kernel)) ggL_changes_X5_change
set_option maxRecDepth 100000 in
theorem ggL_changes_L_rests : GoodIn wsL_changes wsL_rests := goodIn_r _ [96, 34, 35, 36, 5, 37, 7, 8, 38, 39, 40, 41, 42, 18, 43, 20, 44, 22, 23, 24, 25, 45, 46, 47, 48, 49, 50, 51, 52, 53, 54, 55, 56, 57, 58, 59, 31, 32, 33, 21, 60, 61, 62, 63, 64, 65, 66, 67, 68, 69, 70, 71, 72, 73, 74, 75, 76, 77, 78, 79, 80, 81, 82, 83, 84, 85, 86, 87, 88, 30, 89, 90, 91, 92, 167, 168, 169, 170, 171, 172, 173, 174, 175, 176, 188, 189] rfl (by decide +kernel)
set_option maxRecDepth 20000 in
theorem gL_changes_L_rests : GoodIn wsL_changes (va_wsS RL 35 yL_rests wsL_rests) := goodIn_app (goodIn_of _ (by decide +kernel)) ggL_changes_L_rests
set_option maxRecDepth 100000 in
theorem ggL_changes_X5_restsOn : GoodIn wsL_changes wsX5_restsOn := goodIn_r _ [100, 7, 8, 40, 41, 42, 18, 43, 20, 101, 86, 87, 88, 30, 31, 32, 33, 21, 22, 23, 24, 25, 167, 168, 169, 170, 171, 172, 173, 174, 175, 176] rfl (by decide +kernel)
set_option maxRecDepth 20000 in
theorem gL_changes_X5_restsOn : GoodIn wsL_changes (wsV RL 41 RX5 yX5_restsOn wsX5_restsOn) := goodIn_app (goodIn_of _ (by decide +kernel)) ggL_changes_X5_restsOn
set_option maxRecDepth 100000 in
theorem ggL_changes_X5_pending : GoodIn wsL_changes wsX5_pending := goodIn_r _ [105, 7, 106, 107, 108, 55, 109, 110, 111, 112, 113, 57, 114, 27, 28, 18, 29, 20, 21, 22, 23, 24, 25, 30, 31, 32, 33, 115, 116, 117, 118, 119, 120, 121, 122, 123, 124, 125, 126, 127, 128, 48, 129, 50, 51, 130, 131, 132, 133, 134, 135, 136, 137, 138, 139, 140, 141, 142, 143, 144, 145, 146, 147, 148, 149, 150, 151, 152, 72, 73, 74, 75, 153, 154, 155, 156, 167, 168, 169, 170, 171, 172, 173, 174, 175, 176, 188, 189] rfl (by decide +kernel)
set_option maxRecDepth 20000 in
theorem gL_changes_X5_pending : GoodIn wsL_changes (wsV RL 44 RX5 yX5_pending wsX5_pending) := goodIn_app (goodIn_of _ (by decide +kernel)) ggL_changes_X5_pending
set_option maxRecDepth 100000 in
theorem ggL_changes_L_ahead : GoodIn wsL_changes wsL_ahead := goodIn_r _ [159, 34, 35, 36, 5, 37, 7, 8, 38, 39, 40, 41, 42, 18, 43, 20, 44, 22, 23, 24, 25, 45, 46, 47, 48, 49, 50, 51, 52, 53, 54, 55, 56, 57, 58, 59, 31, 32, 33, 21, 60, 61, 62, 63, 64, 65, 66, 67, 68, 69, 70, 71, 72, 73, 74, 75, 76, 77, 78, 79, 80, 81, 82, 83, 84, 85, 86, 87, 88, 30, 89, 90, 91, 92, 167, 168, 169, 170, 171, 172, 173, 174, 175, 176, 188, 189] rfl (by decide +kernel)
set_option maxRecDepth 20000 in
theorem gL_changes_L_ahead : GoodIn wsL_changes (va_wsS RL 47 yL_ahead wsL_ahead) := goodIn_app (goodIn_of _ (by decide +kernel)) ggL_changes_L_ahead
set_option maxRecDepth 100000 in
theorem ggL_changes_X5_author : GoodIn wsL_changes wsX5_author := goodIn_r _ [163, 7, 8, 164, 165, 5, 166, 15, 16, 17, 18, 19, 20, 21, 22, 23, 24, 25, 167, 168, 169, 170, 171, 172, 173, 174, 175, 176] rfl (by decide +kernel)
set_option maxRecDepth 20000 in
theorem gL_changes_X5_author : GoodIn wsL_changes (wsV RL 51 RX5 yX5_author wsX5_author) := goodIn_app (goodIn_of _ (by decide +kernel)) ggL_changes_X5_author
set_option maxRecDepth 100000 in
theorem ggL_ahead_X5_change : GoodIn wsL_ahead wsX5_change := goodIn_r _ [5, 6, 7, 8, 9, 10, 11, 12, 13, 14, 15, 16, 17, 18, 19, 20, 21, 22, 23, 24, 25, 26, 27, 28, 29, 30, 31, 32, 33, 34, 35, 36, 37, 38, 39, 40, 41, 42, 43, 44, 45, 46, 47, 48, 49, 50, 51, 52, 53, 54, 55, 56, 57, 58, 59, 60, 61, 62, 63, 64, 65, 66, 67, 68, 69, 70, 71, 72, 73, 74, 75, 76, 77, 78, 79, 80, 81, 82, 83, 84, 85] rfl (by decide +kernel)
set_option maxRecDepth 20000 in
theorem gL_ahead_X5_change : GoodIn wsL_ahead (wsV RL 19 RX5 yX5_change wsX5_change) := goodIn_app (goodIn_of _ (by decide +kernel)) ggL_ahead_X5_change
set_option maxRecDepth 100000 in
theorem ggL_inserts_X5_size : GoodIn wsL_inserts wsX5_size := goodIn_r _ [5, 6, 7, 8, 4, 9, 10, 11, 12, 13, 14, 15, 16, 17, 18, 19, 20, 21, 22, 23, 24, 25, 26, 27, 28, 29, 30, 31, 32, 33, 34, 35, 36, 37, 38, 39, 40, 41, 42, 43, 44, 45, 46, 47, 48, 49, 50, 51, 52, 53, 54, 55, 56, 57, 58, 234, 235, 236, 237, 238, 239, 240, 241, 242, 243, 244, 245] rfl (by decide +kernel)
set_option maxRecDepth 20000 in
theorem gL_inserts_X5_size : GoodIn wsL_inserts (wsV RL 9 RX5 yX5_size wsX5_size) := goodIn_app (goodIn_of _ (by decide +kernel)) ggL_inserts_X5_size
set_option maxRecDepth 100000 in
theorem ggL_inserts_L_low : GoodIn wsL_inserts wsL_low := goodIn_r _ [62, 63] rfl (by decide +kernel)
set_option maxRecDepth 20000 in
theorem gL_inserts_L_low : GoodIn wsL_inserts (va_wsS RL 54 yL_low wsL_low) := goodIn_app (goodIn_of _ (by decide +kernel)) ggL_inserts_L_low
set_option maxRecDepth 100000 in
theorem ggL_inserts_X5_count : GoodIn wsL_inserts wsX5_count := goodIn_r _ [67, 6, 68, 69, 70, 71, 72, 73, 74, 75, 76, 77, 40, 78, 46, 50, 51, 52, 53, 54, 79, 80, 81, 82, 83, 84, 85, 86, 234, 235, 236, 239, 240, 241, 242, 243, 244, 245, 246, 247, 248, 249, 250, 251, 252, 253, 254, 255, 256] rfl (by decide +kernel)
set_option maxRecDepth 20000 in
theorem gL_inserts_X5_count : GoodIn wsL_inserts (wsV RL 22 RX5 yX5_count wsX5_count) := goodIn_app (goodIn_of _ (by decide +kernel)) ggL_inserts_X5_count
set_option maxRecDepth 100000 in
theorem ggL_inserts_X5_sum : GoodIn wsL_inserts wsX5_sum := goodIn_r _ [90, 6, 7, 8, 4, 9, 91, 92, 93, 16, 94, 23, 18, 25, 26, 27, 28, 29, 30, 31, 32, 33, 34, 35, 36, 37, 38, 39, 40, 41, 42, 43, 44, 45, 46, 47, 48, 49, 50, 51, 52, 53, 54, 55, 56, 57, 58, 95, 96, 97, 98, 24, 99, 100, 101, 102, 103, 104, 105, 106, 107, 108, 109, 110, 111, 112, 113, 114, 115, 116, 117, 118, 119, 120, 121, 122, 123, 124, 234, 235, 236, 239, 240, 241, 242, 243, 237, 238, 244, 245] rfl (by decide +kernel)
set_option maxRecDepth 20000 in
theorem gL_inserts_X5_sum : GoodIn wsL_inserts (wsV RL 32 RX5 yX5_sum wsX5_sum) := goodIn_app (goodIn_of _ (by decide +kernel)) ggL_inserts_X5_sum
set_option maxRecDepth 100000 in
theorem ggL_inserts_X5_insert : GoodIn wsL_inserts wsX5_insert := goodIn_r _ [128, 71, 6, 129, 130, 131, 132, 133, 134, 135, 136, 137, 138, 139, 140, 141, 142, 143, 144, 145, 146, 147, 16, 148, 23, 24, 107, 36, 149, 150, 151, 152, 28, 153, 31, 30, 154, 4, 155, 156, 117, 118, 119, 157, 158, 159, 160, 161, 162, 163, 40, 164, 54, 46, 165, 166, 167, 168, 18, 169, 170, 11, 12, 19, 20, 21, 22, 171, 172, 173, 174, 175, 176, 177, 178, 179, 180, 181, 182, 183, 184, 185, 186, 187, 188, 189, 190, 191, 192, 193, 194, 47, 48, 49, 195, 196, 197, 198, 199, 200, 201, 202, 203, 204, 205, 206, 207, 208, 209, 210, 211, 212, 213, 214, 215, 234, 235, 236, 246, 247, 248, 239, 240, 241, 242, 243, 237, 238, 244, 245] rfl (by decide +kernel)
set_option maxRecDepth 20000 in
theorem gL_inserts_X5_insert : GoodIn wsL_inserts (wsV RL 57 RX5 yX5_insert wsX5_insert) := goodIn_app (goodIn_of _ (by decide +kernel)) ggL_inserts_X5_insert
set_option maxRecDepth 100000 in
theorem ggL_inserts_X5_line : GoodIn wsL_inserts wsX5_line := goodIn_r _ [219, 6, 68, 220, 221, 222, 16, 223, 11, 4, 12, 19, 20, 21, 22, 23, 24, 25, 26, 27, 28, 29, 30, 31, 224, 56, 57, 40, 58, 42, 43, 44, 45, 46, 47, 48, 49, 50, 51, 52, 53, 54, 225, 38, 39, 41, 226, 227, 228, 229, 18, 32, 33, 34, 35, 36, 37, 55, 230, 231, 232, 233, 83, 84, 85, 86, 234, 235, 236, 239, 240, 241, 242, 243, 237, 238, 244, 245] rfl (by decide +kernel)
set_option maxRecDepth 20000 in
theorem gL_inserts_X5_line : GoodIn wsL_inserts (wsV RL 15 RX5 yX5_line wsX5_line) := goodIn_app (goodIn_of _ (by decide +kernel)) ggL_inserts_X5_line
set_option maxRecDepth 100000 in
theorem ggL_removes_X5_size : GoodIn wsL_removes wsX5_size := goodIn_r _ [5, 6, 7, 8, 4, 9, 10, 11, 12, 13, 14, 15, 16, 17, 18, 19, 20, 21, 22, 23, 24, 25, 26, 27, 28, 29, 30, 31, 32, 33, 34, 35, 36, 37, 38, 39, 40, 41, 42, 43, 44, 45, 46, 47, 48, 49, 50, 51, 52, 53, 54, 55, 56, 57, 58, 244, 245, 246, 247, 248, 249, 250, 251, 252, 253, 254, 255] rfl (by decide +kernel)
set_option maxRecDepth 20000 in
theorem gL_removes_X5_size : GoodIn wsL_removes (wsV RL 9 RX5 yX5_size wsX5_size) := goodIn_app (goodIn_of _ (by decide +kernel)) ggL_removes_X5_size
set_option maxRecDepth 100000 in
theorem ggL_removes_X5_remove : GoodIn wsL_removes wsX5_remove := goodIn_r _ [62, 63, 6, 64, 65, 66, 67, 68, 69, 70, 71, 72, 73, 74, 75, 76, 77, 78, 79, 80, 81, 82, 16, 83, 23, 24, 84, 36, 85, 86, 87, 88, 28, 89, 31, 30, 90, 4, 91, 92, 93, 94, 95, 96, 97, 98, 99, 100, 101, 102, 40, 103, 54, 46, 104, 105, 106, 107, 108, 109, 110, 111, 11, 12, 19, 20, 21, 22, 25, 26, 27, 29, 112, 113, 114, 115, 116, 117, 118, 119, 120, 121, 50, 51, 52, 53, 122, 123, 124, 125, 126, 127, 128, 129, 130, 131, 132, 133, 134, 135, 136, 137, 138, 139, 140, 141, 37, 38, 39, 41, 42, 43, 44, 45, 47, 48, 49, 55, 56, 57, 58, 142, 143, 144, 145, 146, 147, 148, 149, 150, 151, 152, 153, 154, 155, 156, 157, 158, 159, 160, 161, 162, 244, 245, 246, 256, 257, 258, 249, 250, 251, 252, 253, 247, 248, 254, 255] rfl (by decide +kernel)
set_option maxRecDepth 20000 in
theorem gL_removes_X5_remove : GoodIn wsL_removes (wsV RL 60 RX5 yX5_remove wsX5_remove) := goodIn_app (goodIn_of _ (by decide +kernel)) ggL_removes_X5_remove
set_option maxRecDepth 100000 in
theorem ggL_removes_L_low : GoodIn wsL_removes wsL_low := goodIn_r _ [166, 167] rfl (by decide +kernel)
set_option maxRecDepth 20000 in
theorem gL_removes_L_low : GoodIn wsL_removes (va_wsS RL 54 yL_low wsL_low) := goodIn_app (goodIn_of _ (by decide +kernel)) ggL_removes_L_low
set_option maxRecDepth 100000 in
theorem ggL_removes_X5_count : GoodIn wsL_removes wsX5_count := goodIn_r _ [171, 6, 172, 173, 174, 63, 175, 176, 177, 178, 179, 180, 40, 181, 46, 50, 51, 52, 53, 54, 182, 183, 184, 185, 122, 123, 124, 125, 244, 245, 246, 249, 250, 251, 252, 253, 254, 255, 256, 257, 258, 259, 260, 261, 262, 263, 264, 265, 266] rfl (by decide +kernel)
set_option maxRecDepth 20000 in
theorem gL_removes_X5_count : GoodIn wsL_removes (wsV RL 22 RX5 yX5_count wsX5_count) := goodIn_app (goodIn_of _ (by decide +kernel)) ggL_removes_X5_count
set_option maxRecDepth 100000 in
theorem ggL_removes_X5_line : GoodIn wsL_removes wsX5_line := goodIn_r _ [189, 6, 172, 190, 109, 110, 16, 111, 11, 4, 12, 19, 20, 21, 22, 23, 24, 25, 26, 27, 28, 29, 30, 31, 191, 56, 57, 40, 58, 42, 43, 44, 45, 46, 47, 48, 49, 50, 51, 52, 53, 54, 192, 38, 39, 41, 193, 194, 195, 196, 18, 32, 33, 34, 35, 36, 37, 55, 197, 198, 199, 200, 122, 123, 124, 125, 244, 245, 246, 249, 250, 251, 252, 253, 247, 248, 254, 255] rfl (by decide +kernel)
set_option maxRecDepth 20000 in
theorem gL_removes_X5_line : GoodIn wsL_removes (wsV RL 15 RX5 yX5_line wsX5_line) := goodIn_app (goodIn_of _ (by decide +kernel)) ggL_removes_X5_line
set_option maxRecDepth 100000 in
theorem ggL_removes_X5_change : GoodIn wsL_removes wsX5_change := goodIn_r _ [204, 6, 172, 205, 206, 207, 131, 132, 40, 133, 46, 208, 51, 52, 53, 54, 209, 139, 140, 28, 141, 30, 31, 210, 211, 212, 16, 213, 36, 142, 214, 123, 124, 125, 50, 215, 216, 217, 218, 219, 220, 221, 222, 223, 93, 94, 95, 224, 225, 226, 227, 228, 229, 230, 231, 84, 232, 233, 234, 235, 236, 237, 238, 239, 122, 240, 241, 242, 243, 244, 245, 246, 249, 250, 251, 252, 253, 254, 255, 247, 248] rfl (by decide +kernel)
set_option maxRecDepth 20000 in
theorem gL_removes_X5_change : GoodIn wsL_removes (wsV RL 19 RX5 yX5_change wsX5_change) := goodIn_app (goodIn_of _ (by decide +kernel)) ggL_removes_X5_change
set_option maxRecDepth 100000 in
theorem ggL_sets_X5_size : GoodIn wsL_sets wsX5_size := goodIn_r _ [5, 6, 7, 8, 4, 9, 10, 11, 12, 13, 14, 15, 16, 17, 18, 19, 20, 21, 22, 23, 24, 25, 26, 27, 28, 29, 30, 31, 32, 33, 34, 35, 36, 37, 38, 39, 40, 41, 42, 43, 44, 45, 46, 47, 48, 49, 50, 51, 52, 53, 54, 55, 56, 57, 58, 259, 260, 261, 262, 263, 264, 265, 266, 267, 268, 269, 270] rfl (by decide +kernel)
set_option maxRecDepth 20000 in
theorem gL_sets_X5_size : GoodIn wsL_sets (wsV RL 9 RX5 yX5_size wsX5_size) := goodIn_app (goodIn_of _ (by decide +kernel)) ggL_sets_X5_size
set_option maxRecDepth 100000 in
theorem ggL_sets_X5_set : GoodIn wsL_sets wsX5_set := goodIn_r _ [62, 63, 6, 64, 65, 66, 67, 68, 69, 70, 71, 72, 73, 74, 75, 76, 77, 78, 79, 80, 81, 82, 16, 83, 23, 24, 84, 36, 85, 86, 87, 88, 28, 89, 31, 30, 90, 4, 91, 92, 93, 94, 95, 96, 97, 98, 99, 100, 101, 102, 40, 103, 54, 46, 104, 105, 106, 107, 25, 26, 27, 29, 108, 109, 37, 38, 39, 41, 42, 43, 44, 45, 47, 48, 49, 50, 51, 52, 53, 110, 111, 112, 113, 114, 115, 116, 117, 118, 119, 120, 121, 122, 123, 124, 125, 126, 127, 128, 129, 130, 131, 132, 133, 134, 135, 136, 137, 138, 139, 140, 141, 142, 143, 144, 145, 146, 147, 148, 149, 150, 151, 152, 153, 154, 155, 156, 157, 158, 159, 160, 161, 162, 163, 164, 259, 260, 261, 271, 272, 273, 264, 265, 266, 267, 268, 262, 263, 269, 270] rfl (by decide +kernel)
set_option maxRecDepth 20000 in
theorem gL_sets_X5_set : GoodIn wsL_sets (wsV RL 63 RX5 yX5_set wsX5_set) := goodIn_app (goodIn_of _ (by decide +kernel)) ggL_sets_X5_set
set_option maxRecDepth 100000 in
theorem ggL_sets_L_low : GoodIn wsL_sets wsL_low := goodIn_r _ [168, 169] rfl (by decide +kernel)
set_option maxRecDepth 20000 in
theorem gL_sets_L_low : GoodIn wsL_sets (va_wsS RL 54 yL_low wsL_low) := goodIn_app (goodIn_of _ (by decide +kernel)) ggL_sets_L_low
set_option maxRecDepth 100000 in
theorem ggL_sets_X5_count : GoodIn wsL_sets wsX5_count := goodIn_r _ [173, 6, 174, 175, 176, 63, 177, 178, 179, 180, 181, 182, 40, 183, 46, 50, 51, 52, 53, 54, 184, 185, 186, 187, 188, 189, 190, 191, 259, 260, 261, 264, 265, 266, 267, 268, 269, 270, 271, 272, 273, 274, 275, 276, 277, 278, 279, 280, 281] rfl (by decide +kernel)
set_option maxRecDepth 20000 in
theorem gL_sets_X5_count : GoodIn wsL_sets (wsV RL 22 RX5 yX5_count wsX5_count) := goodIn_app (goodIn_of _ (by decide +kernel)) ggL_sets_X5_count
set_option maxRecDepth 100000 in
theorem ggL_sets_X5_setting : GoodIn wsL_sets wsX5_setting := goodIn_r _ [195, 6, 174, 196, 197, 198, 16, 199, 11, 4, 12, 19, 20, 21, 22, 23, 24, 25, 26, 27, 28, 29, 30, 31, 200, 201, 202, 40, 203, 46, 119, 120, 121, 122, 54, 259, 260, 261, 264, 265, 266, 267, 268, 262, 263, 269, 270] rfl (by decide +kernel)
set_option maxRecDepth 20000 in
theorem gL_sets_X5_setting : GoodIn wsL_sets (wsV RL 26 RX5 yX5_setting wsX5_setting) := goodIn_app (goodIn_of _ (by decide +kernel)) ggL_sets_X5_setting
set_option maxRecDepth 100000 in
theorem ggL_sets_X5_change : GoodIn wsL_sets wsX5_change := goodIn_r _ [207, 6, 174, 208, 209, 210, 137, 138, 40, 139, 46, 211, 51, 52, 53, 54, 212, 213, 214, 28, 215, 30, 31, 216, 217, 218, 16, 219, 36, 127, 220, 189, 190, 191, 50, 110, 111, 112, 113, 114, 115, 116, 117, 118, 93, 94, 95, 119, 120, 121, 122, 123, 124, 125, 126, 84, 221, 222, 223, 224, 225, 226, 227, 228, 188, 229, 230, 231, 232, 259, 260, 261, 264, 265, 266, 267, 268, 269, 270, 262, 263] rfl (by decide +kernel)
set_option maxRecDepth 20000 in
theorem gL_sets_X5_change : GoodIn wsL_sets (wsV RL 19 RX5 yX5_change wsX5_change) := goodIn_app (goodIn_of _ (by decide +kernel)) ggL_sets_X5_change
set_option maxRecDepth 100000 in
theorem ggL_sets_X5_line : GoodIn wsL_sets wsX5_line := goodIn_r _ [236, 6, 174, 196, 197, 198, 16, 199, 11, 4, 12, 19, 20, 21, 22, 23, 24, 25, 26, 27, 28, 29, 30, 31, 237, 56, 57, 40, 58, 42, 43, 44, 45, 46, 47, 48, 49, 50, 51, 52, 53, 54, 238, 38, 39, 41, 239, 240, 241, 242, 18, 32, 33, 34, 35, 36, 37, 55, 243, 244, 245, 246, 188, 189, 190, 191, 259, 260, 261, 264, 265, 266, 267, 268, 262, 263, 269, 270] rfl (by decide +kernel)
set_option maxRecDepth 20000 in
theorem gL_sets_X5_line : GoodIn wsL_sets (wsV RL 15 RX5 yX5_line wsX5_line) := goodIn_app (goodIn_of _ (by decide +kernel)) ggL_sets_X5_line
set_option maxRecDepth 100000 in
theorem ggL_sets_X5_cell : GoodIn wsL_sets wsX5_cell := goodIn_r _ [250, 6, 251, 252, 253, 16, 254, 18, 19, 20, 21, 22, 23, 24, 25, 26, 27, 28, 29, 30, 31, 32, 33, 34, 35, 36, 37, 38, 39, 40, 41, 42, 43, 44, 45, 46, 47, 48, 49, 50, 51, 52, 53, 54, 55, 56, 57, 58, 255, 256, 257, 258, 123, 124, 125, 126, 84, 110, 111, 112, 113, 114, 115, 116, 117, 118, 93, 94, 95, 119, 120, 121, 122, 127, 259, 260, 261, 262, 263, 264, 265, 266, 267, 268, 269, 270] rfl (by decide +kernel)
set_option maxRecDepth 20000 in
theorem gL_sets_X5_cell : GoodIn wsL_sets (wsV RL 29 RX5 yX5_cell wsX5_cell) := goodIn_app (goodIn_of _ (by decide +kernel)) ggL_sets_X5_cell
set_option maxRecDepth 100000 in
theorem ggL_settles_X5_count : GoodIn wsL_settles wsX5_count := goodIn_r _ [5, 6, 7, 8, 9, 10, 11, 12, 13, 14, 15, 16, 17, 18, 19, 20, 21, 22, 23, 24, 25, 26, 27, 28, 29, 30, 31, 32, 269, 270, 271, 272, 273, 274, 275, 276, 277, 278, 279, 280, 281, 282, 283, 284, 285, 286, 287, 288, 289] rfl (by decide +kernel)
set_option maxRecDepth 20000 in
theorem gL_settles_X5_count : GoodIn wsL_settles (wsV RL 22 RX5 yX5_count wsX5_count) := goodIn_app (goodIn_of _ (by decide +kernel)) ggL_settles_X5_count
set_option maxRecDepth 100000 in
theorem ggL_settles_X5_accept : GoodIn wsL_settles wsX5_accept := goodIn_r _ [36, 6, 7, 10, 37, 38, 39, 17, 40, 19, 41, 30, 31, 32, 20, 21, 22, 23, 24, 42, 43, 44, 45, 46, 47, 48, 49, 50, 51, 52, 53, 54, 55, 56, 57, 58, 59, 60, 61, 62, 63, 64, 65, 66, 67, 68, 69, 70, 71, 72, 73, 74, 75, 4, 76, 77, 78, 79, 80, 81, 82, 83, 84, 85, 86, 87, 88, 89, 90, 91, 92, 93, 94, 95, 96, 97, 29, 98, 99, 100, 101, 102, 103, 104, 105, 106, 107, 108, 109, 110, 111, 112, 113, 114, 115, 116, 117, 118, 119, 120, 121, 122, 123, 124, 125, 126, 127, 128, 129, 130, 131, 132, 133, 134, 135, 136, 137, 138, 139, 140, 269, 270, 271, 272, 273, 274, 275, 276, 277, 278, 279, 280, 281, 290, 291] rfl (by decide +kernel)
set_option maxRecDepth 20000 in
theorem gL_settles_X5_accept : GoodIn wsL_settles (wsV RL 67 RX5 yX5_accept wsX5_accept) := goodIn_app (goodIn_of _ (by decide +kernel)) ggL_settles_X5_accept
set_option maxRecDepth 100000 in
theorem ggL_settles_X5_reject : GoodIn wsL_settles wsX5_reject := goodIn_r _ [144, 6, 7, 10, 37, 38, 39, 17, 40, 19, 41, 30, 31, 32, 20, 21, 22, 23, 24, 42, 43, 44, 45, 46, 47, 48, 49, 50, 51, 52, 53, 54, 55, 56, 57, 58, 59, 60, 61, 62, 63, 64, 65, 66, 67, 68, 69, 70, 71, 72, 73, 74, 75, 4, 76, 77, 78, 79, 80, 81, 82, 83, 84, 85, 86, 87, 88, 145, 146, 147, 148, 93, 94, 95, 96, 97, 29, 102, 103, 104, 105, 106, 107, 108, 109, 110, 111, 112, 113, 114, 115, 116, 117, 118, 119, 120, 121, 122, 123, 124, 125, 126, 127, 128, 133, 134, 135, 136, 137, 138, 139, 140, 269, 270, 271, 272, 273, 274, 275, 276, 277, 278, 279, 280, 281, 290, 291] rfl (by decide +kernel)
set_option maxRecDepth 20000 in
theorem gL_settles_X5_reject : GoodIn wsL_settles (wsV RL 70 RX5 yX5_reject wsX5_reject) := goodIn_app (goodIn_of _ (by decide +kernel)) ggL_settles_X5_reject
set_option maxRecDepth 100000 in
theorem ggL_settles_L_low : GoodIn wsL_settles wsL_low := goodIn_r _ [152, 153] rfl (by decide +kernel)
set_option maxRecDepth 20000 in
theorem gL_settles_L_low : GoodIn wsL_settles (va_wsS RL 54 yL_low wsL_low) := goodIn_app (goodIn_of _ (by decide +kernel)) ggL_settles_L_low
set_option maxRecDepth 100000 in
theorem ggL_settles_X5_change : GoodIn wsL_settles wsX5_change := goodIn_r _ [157, 6, 7, 158, 159, 37, 38, 39, 17, 40, 19, 160, 21, 22, 23, 24, 161, 126, 127, 71, 128, 74, 73, 162, 163, 164, 61, 165, 66, 107, 166, 30, 31, 32, 20, 167, 168, 169, 170, 171, 172, 173, 174, 175, 78, 79, 80, 176, 177, 178, 179, 180, 181, 182, 183, 65, 184, 185, 186, 187, 188, 95, 96, 97, 29, 189, 190, 191, 192, 269, 270, 271, 272, 273, 274, 275, 276, 277, 278, 290, 291] rfl (by decide +kernel)
set_option maxRecDepth 20000 in
theorem gL_settles_X5_change : GoodIn wsL_settles (wsV RL 19 RX5 yX5_change wsX5_change) := goodIn_app (goodIn_of _ (by decide +kernel)) ggL_settles_X5_change
set_option maxRecDepth 100000 in
theorem ggL_settles_X5_size : GoodIn wsL_settles wsX5_size := goodIn_r _ [196, 6, 197, 198, 4, 199, 200, 201, 202, 203, 204, 205, 61, 206, 207, 117, 118, 119, 120, 63, 64, 208, 209, 210, 71, 211, 74, 73, 212, 213, 214, 215, 66, 216, 217, 218, 17, 219, 220, 221, 222, 223, 19, 224, 225, 226, 20, 21, 22, 23, 24, 227, 228, 229, 230, 269, 270, 271, 290, 291, 272, 273, 274, 275, 276, 277, 278] rfl (by decide +kernel)
set_option maxRecDepth 20000 in
theorem gL_settles_X5_size : GoodIn wsL_settles (wsV RL 9 RX5 yX5_size wsX5_size) := goodIn_app (goodIn_of _ (by decide +kernel)) ggL_settles_X5_size
set_option maxRecDepth 100000 in
theorem ggL_settles_X5_line : GoodIn wsL_settles wsX5_line := goodIn_r _ [234, 6, 7, 235, 236, 237, 61, 238, 201, 4, 202, 117, 118, 119, 120, 63, 64, 208, 209, 210, 71, 211, 74, 73, 239, 228, 229, 17, 230, 220, 221, 222, 223, 19, 224, 225, 226, 20, 21, 22, 23, 24, 240, 217, 218, 219, 241, 242, 243, 244, 207, 212, 213, 214, 215, 66, 216, 227, 245, 246, 247, 248, 29, 30, 31, 32, 269, 270, 271, 272, 273, 274, 275, 276, 290, 291, 277, 278] rfl (by decide +kernel)
set_option maxRecDepth 20000 in
theorem gL_settles_X5_line : GoodIn wsL_settles (wsV RL 15 RX5 yX5_line wsX5_line) := goodIn_app (goodIn_of _ (by decide +kernel)) ggL_settles_X5_line
set_option maxRecDepth 100000 in
theorem ggL_settles_X5_setting : GoodIn wsL_settles wsX5_setting := goodIn_r _ [252, 6, 7, 235, 236, 237, 61, 238, 201, 4, 202, 117, 118, 119, 120, 63, 64, 208, 209, 210, 71, 211, 74, 73, 253, 254, 255, 17, 256, 19, 176, 177, 178, 179, 24, 269, 270, 271, 272, 273, 274, 275, 276, 290, 291, 277, 278] rfl (by decide +kernel)
set_option maxRecDepth 20000 in
theorem gL_settles_X5_setting : GoodIn wsL_settles (wsV RL 26 RX5 yX5_setting wsX5_setting) := goodIn_app (goodIn_of _ (by decide +kernel)) ggL_settles_X5_setting
set_option maxRecDepth 100000 in
theorem ggL_settles_X5_cell : GoodIn wsL_settles wsX5_cell := goodIn_r _ [260, 6, 261, 262, 263, 61, 264, 207, 117, 118, 119, 120, 63, 64, 208, 209, 210, 71, 211, 74, 73, 212, 213, 214, 215, 66, 216, 217, 218, 17, 219, 220, 221, 222, 223, 19, 224, 225, 226, 20, 21, 22, 23, 24, 227, 228, 229, 230, 265, 266, 267, 268, 180, 181, 182, 183, 65, 167, 168, 169, 170, 171, 172, 173, 174, 175, 78, 79, 80, 176, 177, 178, 179, 107, 269, 270, 271, 290, 291, 272, 273, 274, 275, 276, 277, 278] rfl (by decide +kernel)
set_option maxRecDepth 20000 in
theorem gL_settles_X5_cell : GoodIn wsL_settles (wsV RL 29 RX5 yX5_cell wsX5_cell) := goodIn_app (goodIn_of _ (by decide +kernel)) ggL_settles_X5_cell
set_option maxRecDepth 100000 in
theorem ggL_orders_X5_clearText : GoodIn wsL_orders wsX5_clearText := goodIn_r _ [5, 6, 7, 326, 327, 328, 329, 330, 331, 332, 333, 334, 335, 336] rfl (by decide +kernel)
set_option maxRecDepth 20000 in
theorem gL_orders_X5_clearText : GoodIn wsL_orders (wsV RL 73 RX5 yX5_clearText wsX5_clearText) := goodIn_app (goodIn_of _ (by decide +kernel)) ggL_orders_X5_clearText
set_option maxRecDepth 100000 in
theorem ggL_orders_X5_run : GoodIn wsL_orders wsX5_run := goodIn_r _ [11, 6, 12, 13, 14, 15, 4, 16, 17, 18, 19, 20, 21, 22, 23, 24, 25, 26, 27, 28, 29, 30, 31, 32, 33, 34, 35, 36, 37, 38, 39, 40, 41, 42, 43, 44, 45, 46, 47, 48, 49, 50, 51, 52, 53, 54, 55, 56, 57, 58, 59, 60, 61, 62, 63, 64, 65, 66, 67, 68, 69, 70, 71, 72, 73, 74, 75, 76, 77, 78, 79, 80, 81, 82, 83, 84, 85, 86, 87, 88, 89, 90, 91, 92, 93, 94, 95, 96, 97, 98, 99, 100, 101, 102, 103, 104, 105, 106, 107, 108, 109, 110, 111, 112, 113, 114, 115, 116, 117, 118, 119, 120, 121, 122, 123, 124, 125, 126, 127, 128, 129, 130, 131, 132, 133, 134, 135, 136, 137, 138, 139, 140, 141, 142, 143, 144, 145, 146, 147, 148, 149, 150, 151, 152, 153, 154, 155, 156, 157, 158, 159, 160, 161, 162, 163, 164, 165, 166, 167, 168, 169, 170, 171, 172, 173, 174, 175, 176, 177, 178, 179, 180, 181, 182, 183, 184, 185, 186, 187, 188, 189, 190, 191, 192, 193, 194, 195, 196, 197, 198, 199, 200, 201, 202, 203, 204, 205, 206, 207, 208, 209, 210, 211, 212, 213, 214, 215, 216, 217, 218, 219, 220, 221, 222, 223, 224, 225, 226, 227, 228, 229, 230, 231, 232, 233, 234, 235, 236, 237, 238, 239, 240, 241, 242, 243, 244, 245, 246, 247, 248, 249, 250, 251, 252, 253, 254, 255, 256, 257, 258, 259, 260, 261, 262, 263, 264, 265, 266, 267, 268, 269, 270, 271, 272, 326, 327, 328, 329, 330, 331, 332, 333, 334, 335, 336, 337, 338, 339, 340, 341, 342, 343, 344, 345, 346, 347, 348] rfl (by decide +kernel)
set_option maxRecDepth 20000 in
theorem gL_orders_X5_run : GoodIn wsL_orders (wsV RL 77 RX5 yX5_run wsX5_run) := goodIn_app (goodIn_of _ (by decide +kernel)) ggL_orders_X5_run
set_option maxRecDepth 100000 in
theorem ggL_orders_X5_size : GoodIn wsL_orders wsX5_size := goodIn_r _ [276, 13, 277, 278, 4, 279, 280, 139, 140, 281, 282, 283, 88, 284, 138, 141, 142, 143, 144, 90, 91, 193, 194, 195, 98, 196, 101, 100, 285, 286, 287, 288, 93, 221, 222, 223, 115, 224, 225, 226, 227, 228, 118, 169, 170, 171, 205, 206, 207, 208, 117, 229, 230, 231, 232, 326, 327, 328, 345, 346, 340, 341, 342, 343, 344, 347, 348] rfl (by decide +kernel)
set_option maxRecDepth 20000 in
theorem gL_orders_X5_size : GoodIn wsL_orders (wsV RL 9 RX5 yX5_size wsX5_size) := goodIn_app (goodIn_of _ (by decide +kernel)) ggL_orders_X5_size
set_option maxRecDepth 100000 in
theorem ggL_orders_X5_count : GoodIn wsL_orders wsX5_count := goodIn_r _ [292, 13, 293, 294, 295, 12, 296, 6, 7, 297, 298, 299, 115, 300, 118, 205, 206, 207, 208, 117, 301, 302, 303, 304, 209, 210, 211, 212, 326, 327, 328, 340, 341, 342, 343, 344, 347, 348, 337, 338, 339, 329, 330, 331, 332, 333, 334, 335, 336] rfl (by decide +kernel)
set_option maxRecDepth 20000 in
theorem gL_orders_X5_count : GoodIn wsL_orders (wsV RL 22 RX5 yX5_count wsX5_count) := goodIn_app (goodIn_of _ (by decide +kernel)) ggL_orders_X5_count
set_option maxRecDepth 100000 in
theorem ggL_orders_X5_type : GoodIn wsL_orders wsX5_type := goodIn_r _ [308, 6, 309, 310, 311, 20, 312, 23, 41, 326, 327, 328, 329, 330, 331, 332, 333, 334, 335, 336] rfl (by decide +kernel)
set_option maxRecDepth 20000 in
theorem gL_orders_X5_type : GoodIn wsL_orders (wsV RL 80 RX5 yX5_type wsX5_type) := goodIn_app (goodIn_of _ (by decide +kernel)) ggL_orders_X5_type
set_option maxRecDepth 100000 in
theorem ggL_orders_L_low : GoodIn wsL_orders wsL_low := goodIn_r _ [316, 317] rfl (by decide +kernel)
set_option maxRecDepth 20000 in
theorem gL_orders_L_low : GoodIn wsL_orders (va_wsS RL 54 yL_low wsL_low) := goodIn_app (goodIn_of _ (by decide +kernel)) ggL_orders_L_low
set_option maxRecDepth 100000 in
theorem ggL_orders_X5_undo : GoodIn wsL_orders wsX5_undo := goodIn_r _ [321, 12, 13, 322, 323, 324, 72, 325, 74, 75, 76, 77, 78, 79, 80, 81, 82, 83, 84, 85, 86, 87, 88, 89, 90, 91, 92, 93, 94, 95, 96, 97, 98, 99, 100, 101, 102, 4, 103, 104, 105, 106, 107, 108, 109, 110, 111, 112, 113, 114, 115, 116, 117, 118, 326, 327, 328, 337, 338, 339, 340, 341, 342, 343, 344, 345, 346, 347, 348] rfl (by decide +kernel)
set_option maxRecDepth 20000 in
theorem gL_orders_X5_undo : GoodIn wsL_orders (wsV RL 84 RX5 yX5_undo wsX5_undo) := goodIn_app (goodIn_of _ (by decide +kernel)) ggL_orders_X5_undo
set_option maxRecDepth 100000 in
theorem ggL_errors_X5_count : GoodIn wsL_errors wsX5_count := goodIn_r _ [5, 6, 7, 8, 9, 10, 11, 12, 13, 14, 15, 16, 17, 18, 19, 20, 21, 22, 23, 24, 25, 26, 27, 28, 29, 30, 31, 32, 315, 316, 317, 318, 319, 320, 321, 322, 323, 324, 325, 326, 327, 328, 329, 330, 331, 332, 333, 334, 335] rfl (by decide +kernel)
set_option maxRecDepth 20000 in
theorem gL_errors_X5_count : GoodIn wsL_errors (wsV RL 22 RX5 yX5_count wsX5_count) := goodIn_app (goodIn_of _ (by decide +kernel)) ggL_errors_X5_count
set_option maxRecDepth 100000 in
theorem ggL_errors_X5_insert : GoodIn wsL_errors wsX5_insert := goodIn_r _ [36, 10, 6, 37, 38, 39, 40, 41, 42, 43, 44, 45, 46, 47, 48, 49, 50, 51, 52, 53, 54, 55, 56, 57, 58, 59, 60, 61, 62, 63, 64, 65, 66, 67, 68, 69, 70, 4, 71, 72, 73, 74, 75, 76, 77, 78, 79, 80, 81, 82, 17, 83, 24, 19, 84, 85, 86, 87, 88, 89, 90, 91, 92, 93, 94, 95, 96, 97, 98, 99, 100, 101, 102, 103, 104, 105, 106, 107, 108, 109, 110, 111, 112, 113, 114, 115, 116, 117, 118, 119, 120, 121, 122, 123, 124, 125, 126, 127, 128, 129, 130, 131, 132, 133, 134, 135, 136, 137, 138, 139, 140, 141, 142, 143, 144, 315, 316, 317, 325, 326, 327, 318, 319, 320, 321, 322, 336, 337, 323, 324] rfl (by decide +kernel)
set_option maxRecDepth 20000 in
theorem gL_errors_X5_insert : GoodIn wsL_errors (wsV RL 57 RX5 yX5_insert wsX5_insert) := goodIn_app (goodIn_of _ (by decide +kernel)) ggL_errors_X5_insert
set_option maxRecDepth 100000 in
theorem ggL_errors_X5_remove : GoodIn wsL_errors wsX5_remove := goodIn_r _ [148, 10, 6, 37, 38, 39, 40, 41, 42, 43, 44, 45, 46, 47, 48, 49, 50, 51, 52, 53, 54, 55, 56, 57, 58, 59, 60, 61, 62, 63, 64, 65, 66, 67, 68, 69, 70, 4, 71, 72, 73, 74, 75, 76, 77, 78, 79, 80, 81, 82, 17, 83, 24, 19, 149, 150, 151, 152, 153, 154, 155, 156, 91, 92, 93, 94, 95, 96, 157, 158, 159, 160, 89, 90, 161, 162, 163, 164, 165, 166, 167, 168, 20, 21, 22, 23, 29, 30, 31, 32, 129, 130, 131, 132, 133, 134, 135, 136, 169, 170, 171, 172, 173, 174, 175, 176, 177, 178, 179, 180, 181, 182, 183, 184, 121, 122, 123, 185, 186, 187, 188, 189, 117, 118, 119, 120, 124, 125, 126, 127, 128, 102, 103, 104, 137, 138, 139, 140, 141, 142, 143, 144, 315, 316, 317, 325, 326, 327, 318, 319, 320, 321, 322, 336, 337, 323, 324] rfl (by decide +kernel)
set_option maxRecDepth 20000 in
theorem gL_errors_X5_remove : GoodIn wsL_errors (wsV RL 60 RX5 yX5_remove wsX5_remove) := goodIn_app (goodIn_of _ (by decide +kernel)) ggL_errors_X5_remove
set_option maxRecDepth 100000 in
theorem ggL_errors_X5_set : GoodIn wsL_errors wsX5_set := goodIn_r _ [193, 10, 6, 37, 38, 39, 40, 41, 42, 43, 44, 45, 46, 47, 48, 49, 50, 51, 52, 53, 54, 55, 56, 57, 58, 59, 60, 61, 62, 63, 64, 65, 66, 67, 68, 69, 70, 4, 71, 72, 73, 74, 75, 76, 77, 78, 79, 80, 81, 82, 17, 83, 24, 19, 194, 195, 196, 197, 157, 158, 159, 160, 89, 90, 177, 178, 179, 180, 181, 182, 183, 184, 121, 122, 123, 20, 21, 22, 23, 198, 199, 200, 201, 202, 203, 204, 205, 206, 207, 208, 209, 210, 211, 212, 213, 214, 189, 215, 216, 217, 218, 129, 130, 131, 132, 133, 134, 135, 136, 113, 114, 115, 116, 219, 220, 221, 222, 223, 224, 125, 126, 127, 128, 102, 103, 104, 137, 138, 139, 140, 141, 142, 143, 144, 315, 316, 317, 325, 326, 327, 318, 319, 320, 321, 322, 336, 337, 323, 324] rfl (by decide +kernel)
set_option maxRecDepth 20000 in
theorem gL_errors_X5_set : GoodIn wsL_errors (wsV RL 63 RX5 yX5_set wsX5_set) := goodIn_app (goodIn_of _ (by decide +kernel)) ggL_errors_X5_set
set_option maxRecDepth 100000 in
theorem ggL_errors_X5_accept : GoodIn wsL_errors wsX5_accept := goodIn_r _ [228, 6, 7, 10, 229, 134, 135, 17, 136, 19, 230, 30, 31, 32, 20, 21, 22, 23, 24, 37, 38, 39, 40, 41, 42, 43, 44, 45, 46, 47, 48, 49, 50, 51, 52, 53, 54, 55, 56, 57, 58, 59, 60, 61, 62, 63, 64, 65, 66, 67, 68, 69, 70, 4, 71, 72, 73, 74, 75, 76, 77, 78, 79, 80, 81, 82, 83, 231, 232, 233, 234, 235, 236, 237, 238, 239, 29, 240, 241, 242, 243, 223, 130, 131, 132, 133, 189, 161, 162, 163, 164, 165, 166, 167, 168, 129, 93, 94, 95, 96, 169, 170, 171, 172, 173, 174, 175, 176, 113, 114, 115, 116, 137, 138, 139, 140, 141, 142, 143, 144, 315, 316, 317, 318, 319, 320, 321, 322, 323, 324, 325, 326, 327, 336, 337] rfl (by decide +kernel)
set_option maxRecDepth 20000 in
theorem gL_errors_X5_accept : GoodIn wsL_errors (wsV RL 67 RX5 yX5_accept wsX5_accept) := goodIn_app (goodIn_of _ (by decide +kernel)) ggL_errors_X5_accept
set_option maxRecDepth 100000 in
theorem ggL_errors_X5_reject : GoodIn wsL_errors wsX5_reject := goodIn_r _ [247, 6, 7, 10, 229, 134, 135, 17, 136, 19, 230, 30, 31, 32, 20, 21, 22, 23, 24, 37, 38, 39, 40, 41, 42, 43, 44, 45, 46, 47, 48, 49, 50, 51, 52, 53, 54, 55, 56, 57, 58, 59, 60, 61, 62, 63, 64, 65, 66, 67, 68, 69, 70, 4, 71, 72, 73, 74, 75, 76, 77, 78, 79, 80, 81, 82, 83, 248, 249, 250, 251, 235, 236, 237, 238, 239, 29, 223, 130, 131, 132, 133, 189, 161, 162, 163, 164, 165, 166, 167, 168, 129, 93, 94, 95, 96, 169, 170, 171, 172, 173, 174, 175, 176, 137, 138, 139, 140, 141, 142, 143, 144, 315, 316, 317, 318, 319, 320, 321, 322, 323, 324, 325, 326, 327, 336, 337] rfl (by decide +kernel)
set_option maxRecDepth 20000 in
theorem gL_errors_X5_reject : GoodIn wsL_errors (wsV RL 70 RX5 yX5_reject wsX5_reject) := goodIn_app (goodIn_of _ (by decide +kernel)) ggL_errors_X5_reject
set_option maxRecDepth 100000 in
theorem ggL_errors_X5_settle : GoodIn wsL_errors wsX5_settle := goodIn_r _ [255, 6, 7, 10, 256, 89, 4, 90, 14, 15, 16, 17, 18, 19, 20, 21, 22, 23, 24, 37, 38, 39, 40, 41, 42, 43, 44, 45, 46, 47, 48, 49, 50, 51, 52, 53, 54, 55, 56, 57, 58, 59, 60, 61, 62, 63, 64, 65, 66, 67, 68, 69, 70, 71, 72, 73, 74, 75, 76, 77, 78, 79, 80, 81, 82, 83, 257, 258, 259, 260, 235, 189, 261, 30, 31, 32, 262, 232, 233, 234, 236, 237, 238, 239, 29, 240, 241, 242, 243, 223, 130, 131, 132, 133, 134, 135, 136, 161, 162, 163, 164, 165, 166, 167, 168, 129, 93, 94, 95, 96, 169, 170, 171, 172, 173, 174, 175, 176, 113, 114, 115, 116, 263, 249, 250, 251, 137, 138, 139, 140, 141, 142, 143, 144, 315, 316, 317, 318, 319, 320, 321, 322, 323, 324, 325, 326, 327, 336, 337] rfl (by decide +kernel)
set_option maxRecDepth 20000 in
theorem gL_errors_X5_settle : GoodIn wsL_errors (wsV RL 87 RX5 yX5_settle wsX5_settle) := goodIn_app (goodIn_of _ (by decide +kernel)) ggL_errors_X5_settle
set_option maxRecDepth 100000 in
theorem ggL_errors_X5_change : GoodIn wsL_errors wsX5_change := goodIn_r _ [267, 6, 7, 268, 269, 229, 134, 135, 17, 136, 19, 270, 21, 22, 23, 24, 271, 174, 175, 66, 176, 69, 68, 272, 273, 274, 56, 275, 61, 189, 261, 30, 31, 32, 20, 198, 199, 200, 201, 202, 203, 204, 205, 206, 73, 74, 75, 207, 208, 209, 210, 211, 212, 213, 214, 60, 276, 277, 278, 279, 280, 237, 238, 239, 29, 281, 282, 283, 284, 315, 316, 317, 318, 319, 320, 321, 322, 323, 324, 336, 337] rfl (by decide +kernel)
set_option maxRecDepth 20000 in
theorem gL_errors_X5_change : GoodIn wsL_errors (wsV RL 19 RX5 yX5_change wsX5_change) := goodIn_app (goodIn_of _ (by decide +kernel)) ggL_errors_X5_change
set_option maxRecDepth 100000 in
theorem ggL_errors_X5_restsOn : GoodIn wsL_errors wsX5_restsOn := goodIn_r _ [288, 6, 7, 229, 134, 135, 17, 136, 19, 289, 237, 238, 239, 29, 30, 31, 32, 20, 21, 22, 23, 24, 315, 316, 317, 318, 319, 320, 321, 322, 323, 324] rfl (by decide +kernel)
set_option maxRecDepth 20000 in
theorem gL_errors_X5_restsOn : GoodIn wsL_errors (wsV RL 41 RX5 yX5_restsOn wsX5_restsOn) := goodIn_app (goodIn_of _ (by decide +kernel)) ggL_errors_X5_restsOn
set_option maxRecDepth 100000 in
theorem ggL_errors_X5_size : GoodIn wsL_errors wsX5_size := goodIn_r _ [293, 6, 294, 295, 4, 296, 297, 91, 92, 298, 299, 300, 56, 301, 88, 93, 94, 95, 96, 58, 59, 157, 158, 159, 66, 160, 69, 68, 302, 303, 304, 305, 61, 177, 178, 179, 17, 180, 181, 182, 183, 184, 19, 121, 122, 123, 20, 21, 22, 23, 24, 185, 186, 187, 188, 315, 316, 317, 336, 337, 318, 319, 320, 321, 322, 323, 324] rfl (by decide +kernel)
set_option maxRecDepth 20000 in
theorem gL_errors_X5_size : GoodIn wsL_errors (wsV RL 9 RX5 yX5_size wsX5_size) := goodIn_app (goodIn_of _ (by decide +kernel)) ggL_errors_X5_size
set_option maxRecDepth 100000 in
theorem ggL_errors_X5_setting : GoodIn wsL_errors wsX5_setting := goodIn_r _ [309, 6, 7, 310, 154, 155, 56, 156, 91, 4, 92, 93, 94, 95, 96, 58, 59, 157, 158, 159, 66, 160, 69, 68, 311, 312, 313, 17, 314, 19, 207, 208, 209, 210, 24, 315, 316, 317, 318, 319, 320, 321, 322, 336, 337, 323, 324] rfl (by decide +kernel)
set_option maxRecDepth 20000 in
theorem gL_errors_X5_setting : GoodIn wsL_errors (wsV RL 26 RX5 yX5_setting wsX5_setting) := goodIn_app (goodIn_of _ (by decide +kernel)) ggL_errors_X5_setting
set_option maxRecDepth 100000 in
theorem ggL_law_X5_init : GoodIn wsL_law wsX5_init := goodIn_r _ [5, 6, 7, 8, 9, 10, 11, 12, 13, 14, 15, 16, 17, 18, 19, 20, 21, 22, 23, 24, 25, 26, 27, 28, 29, 30, 31, 32, 33, 34, 35, 36, 37, 38, 39, 40, 41, 42, 43, 44, 45, 46, 47, 48, 49, 50, 51, 52, 53, 54, 55, 56, 57, 58, 59, 564, 565, 566, 567, 568, 561, 562, 563, 569, 570, 571, 572, 573, 574, 575, 576, 577, 578, 579, 580, 581, 582, 583] rfl (by decide +kernel)
set_option maxRecDepth 20000 in
theorem gL_law_X5_init : GoodIn wsL_law (wsX5_init) := ggL_law_X5_init
set_option maxRecDepth 100000 in
theorem ggL_law_L_cell : GoodIn wsL_law wsL_cell := goodIn_r _ [63, 64] rfl (by decide +kernel)
set_option maxRecDepth 20000 in
theorem gL_law_L_cell : GoodIn wsL_law (va_wsS RL 92 yL_cell wsL_cell) := goodIn_app (goodIn_of _ (by decide +kernel)) ggL_law_L_cell
set_option maxRecDepth 100000 in
theorem ggL_law_L_low : GoodIn wsL_law wsL_low := goodIn_r _ [67, 68] rfl (by decide +kernel)
set_option maxRecDepth 20000 in
theorem gL_law_L_low : GoodIn wsL_law (va_wsS RL 54 yL_low wsL_low) := goodIn_app (goodIn_of _ (by decide +kernel)) ggL_law_L_low
set_option maxRecDepth 100000 in
theorem ggL_law_X5_size : GoodIn wsL_law wsX5_size := goodIn_r _ [72, 12, 73, 74, 2, 75, 76, 77, 78, 79, 80, 81, 11, 82, 83, 84, 85, 86, 87, 27, 28, 88, 89, 90, 26, 91, 92, 44, 93, 94, 95, 96, 34, 97, 98, 99, 33, 100, 101, 102, 103, 104, 105, 106, 107, 108, 109, 110, 111, 112, 48, 113, 114, 115, 116, 561, 562, 563, 580, 581, 564, 565, 566, 567, 568, 582, 583] rfl (by decide +kernel)
set_option maxRecDepth 20000 in
theorem gL_law_X5_size : GoodIn wsL_law (wsV RL 9 RX5 yX5_size wsX5_size) := goodIn_app (goodIn_of _ (by decide +kernel)) ggL_law_X5_size
set_option maxRecDepth 100000 in
theorem ggL_law_L_inserts : GoodIn wsL_law wsL_inserts := goodIn_r _ [119, 69, 70, 71, 2, 72, 12, 73, 74, 75, 76, 77, 78, 79, 80, 81, 11, 82, 83, 84, 85, 86, 87, 27, 28, 88, 89, 90, 26, 91, 92, 44, 93, 94, 95, 96, 34, 97, 98, 99, 33, 100, 101, 102, 103, 104, 105, 106, 107, 108, 109, 110, 111, 112, 48, 113, 114, 115, 116, 65, 66, 62, 67, 68, 120, 121, 122, 123, 124, 125, 126, 16, 127, 20, 128, 129, 130, 131, 132, 133, 134, 135, 136, 137, 138, 139, 140, 141, 142, 143, 144, 145, 146, 147, 148, 149, 150, 151, 152, 153, 154, 155, 156, 157, 158, 159, 160, 30, 161, 162, 163, 164, 165, 166, 167, 168, 169, 170, 42, 171, 172, 173, 174, 175, 176, 177, 178, 179, 180, 181, 182, 183, 15, 184, 185, 186, 187, 188, 189, 54, 190, 191, 192, 193, 194, 195, 196, 197, 198, 35, 199, 200, 201, 202, 203, 204, 205, 206, 207, 208, 209, 210, 211, 212, 213, 214, 215, 216, 217, 218, 219, 220, 221, 222, 223, 224, 225, 226, 227, 228, 229, 230, 231, 232, 233, 234, 235, 236, 237, 238, 239, 240, 241, 242, 243, 244, 245, 246, 247, 248, 249, 250, 251, 252, 253, 254, 255, 256, 257, 258, 259, 260, 261, 262, 263, 264, 265, 266, 267, 268, 269, 270, 271, 272, 273, 274, 275, 276, 277, 278, 279, 280, 281, 282, 561, 562, 563, 580, 581, 564, 565, 566, 567, 568, 582, 583, 569, 570, 571, 572, 573, 574, 575, 576, 577, 578, 579] rfl (by decide +kernel)
set_option maxRecDepth 20000 in
theorem gL_law_L_inserts : GoodIn wsL_law (va_wsS RL 95 yL_inserts wsL_inserts) := goodIn_app (goodIn_of _ (by decide +kernel)) ggL_law_L_inserts
set_option maxRecDepth 100000 in
theorem ggL_law_L_removes : GoodIn wsL_law wsL_removes := goodIn_r _ [285, 69, 70, 71, 2, 72, 12, 73, 74, 75, 76, 77, 78, 79, 80, 81, 11, 82, 83, 84, 85, 86, 87, 27, 28, 88, 89, 90, 26, 91, 92, 44, 93, 94, 95, 96, 34, 97, 98, 99, 33, 100, 101, 102, 103, 104, 105, 106, 107, 108, 109, 110, 111, 112, 48, 113, 114, 115, 116, 286, 287, 288, 289, 16, 181, 182, 183, 15, 184, 185, 186, 187, 188, 189, 54, 190, 191, 192, 193, 194, 195, 196, 197, 198, 30, 35, 199, 200, 201, 202, 203, 204, 205, 170, 42, 171, 206, 207, 208, 209, 210, 211, 212, 213, 290, 291, 292, 293, 294, 270, 271, 272, 218, 219, 295, 296, 297, 298, 299, 300, 301, 302, 137, 138, 139, 140, 249, 250, 251, 252, 253, 254, 255, 256, 303, 304, 305, 306, 307, 308, 309, 310, 176, 240, 241, 242, 243, 244, 245, 246, 247, 248, 225, 226, 227, 257, 258, 259, 260, 261, 262, 263, 264, 65, 66, 62, 67, 68, 120, 121, 122, 123, 124, 125, 126, 127, 20, 128, 129, 130, 131, 132, 133, 134, 135, 136, 265, 266, 267, 268, 269, 273, 274, 275, 276, 277, 278, 279, 280, 281, 282, 311, 312, 313, 314, 315, 316, 317, 318, 319, 320, 321, 322, 323, 324, 161, 162, 163, 164, 165, 166, 167, 168, 169, 172, 173, 174, 175, 157, 158, 159, 160, 325, 326, 327, 328, 329, 330, 331, 332, 333, 334, 335, 336, 561, 562, 563, 580, 581, 564, 565, 566, 567, 568, 582, 583, 569, 570, 571, 572, 573, 574, 575, 576, 577, 578, 579] rfl (by decide +kernel)
set_option maxRecDepth 20000 in
theorem gL_law_L_removes : GoodIn wsL_law (va_wsS RL 99 yL_removes wsL_removes) := goodIn_app (goodIn_of _ (by decide +kernel)) ggL_law_L_removes
set_option maxRecDepth 100000 in
theorem ggL_law_L_sets : GoodIn wsL_law wsL_sets := goodIn_r _ [339, 69, 70, 71, 2, 72, 12, 73, 74, 75, 76, 77, 78, 79, 80, 81, 11, 82, 83, 84, 85, 86, 87, 27, 28, 88, 89, 90, 26, 91, 92, 44, 93, 94, 95, 96, 34, 97, 98, 99, 33, 100, 101, 102, 103, 104, 105, 106, 107, 108, 109, 110, 111, 112, 48, 113, 114, 115, 116, 340, 341, 342, 343, 16, 181, 182, 183, 15, 184, 185, 186, 187, 188, 189, 54, 190, 191, 192, 193, 194, 195, 196, 197, 198, 30, 35, 199, 200, 201, 202, 203, 204, 205, 170, 42, 171, 206, 207, 208, 209, 210, 211, 212, 213, 344, 345, 346, 347, 218, 219, 161, 162, 163, 164, 165, 166, 167, 168, 169, 172, 173, 174, 175, 157, 158, 159, 160, 176, 348, 349, 350, 351, 249, 250, 251, 252, 253, 254, 255, 256, 236, 237, 238, 239, 352, 353, 354, 355, 356, 357, 245, 246, 247, 248, 225, 226, 227, 257, 258, 259, 260, 261, 262, 263, 264, 65, 66, 62, 67, 68, 120, 121, 122, 123, 124, 125, 126, 127, 20, 128, 129, 130, 131, 132, 133, 134, 135, 136, 137, 138, 139, 140, 358, 359, 360, 361, 269, 270, 271, 272, 362, 363, 364, 365, 311, 312, 313, 314, 315, 316, 317, 318, 319, 308, 309, 310, 320, 321, 322, 323, 324, 325, 326, 327, 328, 329, 330, 331, 332, 333, 334, 335, 336, 265, 266, 267, 268, 273, 274, 275, 276, 277, 278, 279, 280, 281, 282, 366, 367, 368, 369, 370, 371, 372, 373, 374, 154, 155, 156, 561, 562, 563, 580, 581, 564, 565, 566, 567, 568, 582, 583, 569, 570, 571, 572, 573, 574, 575, 576, 577, 578, 579] rfl (by decide +kernel)
set_option maxRecDepth 20000 in
theorem gL_law_L_sets : GoodIn wsL_law (va_wsS RL 102 yL_sets wsL_sets) := goodIn_app (goodIn_of _ (by decide +kernel)) ggL_law_L_sets
set_option maxRecDepth 100000 in
theorem ggL_law_L_settles : GoodIn wsL_law wsL_settles := goodIn_r _ [377, 120, 121, 122, 2, 123, 12, 124, 125, 126, 16, 127, 20, 128, 129, 130, 131, 33, 132, 105, 109, 110, 111, 112, 48, 133, 134, 135, 136, 137, 138, 139, 140, 378, 379, 380, 381, 317, 254, 255, 256, 382, 181, 182, 183, 15, 184, 185, 186, 187, 188, 189, 54, 190, 191, 192, 193, 194, 195, 196, 197, 11, 198, 27, 28, 30, 34, 35, 199, 200, 201, 26, 202, 44, 92, 203, 204, 205, 170, 42, 171, 206, 207, 208, 209, 210, 211, 212, 213, 383, 384, 385, 386, 387, 388, 330, 331, 332, 389, 390, 391, 392, 356, 250, 251, 252, 253, 176, 295, 296, 297, 298, 299, 300, 301, 302, 249, 84, 85, 86, 87, 303, 304, 305, 306, 307, 308, 309, 310, 236, 237, 238, 239, 257, 258, 259, 260, 261, 262, 263, 264, 393, 394, 395, 396, 397, 398, 399, 400, 65, 66, 62, 67, 68, 311, 312, 313, 314, 315, 316, 318, 319, 320, 321, 322, 323, 324, 161, 162, 163, 164, 165, 166, 167, 168, 169, 172, 173, 174, 175, 157, 158, 159, 160, 325, 326, 327, 328, 329, 333, 334, 335, 336, 69, 70, 71, 72, 73, 74, 75, 76, 77, 78, 79, 80, 81, 82, 83, 88, 89, 90, 91, 93, 94, 95, 96, 97, 98, 99, 100, 101, 102, 103, 104, 106, 107, 108, 113, 114, 115, 116, 265, 266, 267, 268, 269, 270, 271, 272, 273, 274, 275, 276, 277, 278, 279, 280, 281, 282, 358, 359, 360, 361, 362, 363, 364, 365, 366, 367, 368, 369, 370, 371, 372, 373, 374, 154, 155, 156, 561, 562, 563, 564, 565, 566, 567, 568, 582, 583, 569, 570, 571, 572, 573, 574, 575, 576, 577, 578, 579, 580, 581] rfl (by decide +kernel)
set_option maxRecDepth 20000 in
theorem gL_law_L_settles : GoodIn wsL_law (va_wsS RL 105 yL_settles wsL_settles) := goodIn_app (goodIn_of _ (by decide +kernel)) ggL_law_L_settles
set_option maxRecDepth 100000 in
theorem ggL_law_X5_count : GoodIn wsL_law wsX5_count := goodIn_r _ [123, 12, 124, 125, 126, 16, 127, 20, 128, 129, 130, 131, 33, 132, 105, 109, 110, 111, 112, 48, 133, 134, 135, 136, 137, 138, 139, 140, 561, 562, 563, 564, 565, 566, 567, 568, 582, 583, 569, 570, 571, 572, 573, 574, 575, 576, 577, 578, 579] rfl (by decide +kernel)
set_option maxRecDepth 20000 in
theorem gL_law_X5_count : GoodIn wsL_law (wsV RL 22 RX5 yX5_count wsX5_count) := goodIn_app (goodIn_of _ (by decide +kernel)) ggL_law_X5_count
set_option maxRecDepth 100000 in
theorem ggL_law_X5_track : GoodIn wsL_law wsX5_track := goodIn_r _ [404, 12, 126, 16, 124, 181, 182, 183, 15, 184, 185, 186, 187, 188, 189, 54, 190, 191, 192, 193, 194, 195, 196, 197, 11, 198, 27, 28, 30, 34, 35, 199, 200, 201, 26, 202, 44, 92, 203, 2, 204, 205, 170, 42, 171, 206, 207, 208, 209, 210, 211, 212, 33, 213, 48, 105, 129, 130, 131, 132, 109, 110, 111, 112, 257, 258, 259, 260, 261, 262, 263, 264, 561, 562, 563, 564, 565, 566, 567, 568, 569, 570, 571, 580, 581, 582, 583] rfl (by decide +kernel)
set_option maxRecDepth 20000 in
theorem gL_law_X5_track : GoodIn wsL_law (wsV RL 109 RX5 yX5_track wsX5_track) := goodIn_app (goodIn_of _ (by decide +kernel)) ggL_law_X5_track
set_option maxRecDepth 100000 in
theorem ggL_law_L_orders : GoodIn wsL_law wsL_orders := goodIn_r _ [407, 408, 409, 410, 2, 411, 20, 128, 412, 413, 414, 415, 16, 12, 416, 218, 219, 417, 418, 419, 19, 420, 421, 422, 423, 424, 425, 426, 427, 428, 429, 430, 431, 432, 433, 434, 435, 436, 437, 438, 439, 59, 440, 441, 442, 443, 444, 445, 446, 447, 448, 449, 450, 451, 452, 453, 454, 455, 456, 457, 458, 459, 460, 461, 462, 463, 464, 465, 466, 181, 182, 183, 15, 184, 185, 186, 187, 188, 189, 54, 190, 191, 192, 193, 194, 195, 196, 197, 11, 198, 27, 28, 30, 34, 35, 199, 200, 201, 26, 202, 44, 92, 203, 204, 205, 170, 42, 171, 206, 207, 208, 209, 210, 211, 212, 33, 213, 48, 105, 467, 468, 469, 470, 471, 472, 473, 474, 475, 476, 477, 478, 479, 480, 481, 214, 215, 216, 217, 83, 77, 78, 84, 85, 86, 87, 220, 221, 222, 223, 224, 225, 226, 227, 228, 229, 230, 231, 232, 233, 234, 235, 236, 237, 238, 239, 240, 241, 242, 243, 106, 107, 108, 244, 245, 246, 247, 248, 249, 250, 251, 252, 253, 254, 255, 256, 290, 291, 292, 293, 294, 270, 271, 272, 88, 89, 90, 91, 295, 296, 297, 298, 299, 300, 301, 302, 109, 110, 111, 112, 137, 138, 139, 140, 303, 304, 305, 306, 307, 308, 309, 310, 97, 98, 99, 100, 101, 102, 103, 104, 113, 114, 115, 116, 176, 344, 345, 346, 347, 161, 162, 163, 164, 165, 166, 167, 168, 169, 172, 173, 174, 175, 157, 158, 159, 160, 348, 349, 350, 351, 352, 353, 354, 355, 356, 357, 257, 258, 259, 260, 261, 262, 263, 264, 69, 70, 71, 72, 73, 74, 75, 76, 79, 80, 81, 82, 93, 94, 95, 96, 120, 121, 122, 123, 124, 125, 126, 127, 129, 130, 131, 132, 133, 134, 135, 136, 482, 483, 484, 485, 486, 487, 488, 489, 65, 66, 62, 67, 68, 490, 491, 492, 493, 494, 495, 496, 497, 561, 562, 563, 572, 573, 574, 575, 576, 577, 578, 579, 569, 570, 571, 564, 565, 566, 567, 568, 580, 581, 582, 583] rfl (by decide +kernel)
set_option maxRecDepth 20000 in
theorem gL_law_L_orders : GoodIn wsL_law (va_wsS RL 113 yL_orders wsL_orders) := goodIn_app (goodIn_of _ (by decide +kernel)) ggL_law_L_orders
set_option maxRecDepth 100000 in
theorem ggL_law_X5_author : GoodIn wsL_law wsX5_author := goodIn_r _ [501, 12, 124, 416, 218, 2, 219, 129, 130, 131, 33, 132, 105, 109, 110, 111, 112, 48, 561, 562, 563, 564, 565, 566, 567, 568, 582, 583] rfl (by decide +kernel)
set_option maxRecDepth 20000 in
theorem gL_law_X5_author : GoodIn wsL_law (wsV RL 51 RX5 yX5_author wsX5_author) := goodIn_app (goodIn_of _ (by decide +kernel)) ggL_law_X5_author
set_option maxRecDepth 100000 in
theorem ggL_law_X5_settle : GoodIn wsL_law wsX5_settle := goodIn_r _ [505, 12, 124, 16, 416, 218, 2, 219, 129, 130, 131, 33, 132, 105, 109, 110, 111, 112, 48, 181, 182, 183, 15, 184, 185, 186, 187, 188, 189, 54, 190, 191, 192, 193, 194, 195, 196, 197, 11, 198, 27, 28, 30, 34, 35, 199, 200, 201, 26, 202, 44, 92, 203, 204, 205, 170, 42, 171, 206, 207, 208, 209, 210, 211, 212, 213, 506, 507, 508, 509, 387, 176, 324, 138, 139, 140, 510, 384, 385, 386, 388, 330, 331, 332, 137, 389, 390, 391, 392, 356, 250, 251, 252, 253, 254, 255, 256, 295, 296, 297, 298, 299, 300, 301, 302, 249, 84, 85, 86, 87, 303, 304, 305, 306, 307, 308, 309, 310, 236, 237, 238, 239, 511, 398, 399, 400, 257, 258, 259, 260, 261, 262, 263, 264, 561, 562, 563, 564, 565, 566, 567, 568, 582, 583, 569, 570, 571, 580, 581] rfl (by decide +kernel)
set_option maxRecDepth 20000 in
theorem gL_law_X5_settle : GoodIn wsL_law (wsV RL 87 RX5 yX5_settle wsX5_settle) := goodIn_app (goodIn_of _ (by decide +kernel)) ggL_law_X5_settle
set_option maxRecDepth 100000 in
theorem ggL_law_L_lines : GoodIn wsL_law wsL_lines := goodIn_r _ [514, 69, 70, 71, 2, 72, 12, 73, 74, 75, 76, 77, 78, 79, 80, 81, 11, 82, 83, 84, 85, 86, 87, 27, 28, 88, 89, 90, 26, 91, 92, 44, 93, 94, 95, 96, 34, 97, 98, 99, 33, 100, 101, 102, 103, 104, 105, 106, 107, 108, 109, 110, 111, 112, 48, 113, 114, 115, 116, 265, 266, 267, 268, 124, 269, 270, 271, 272, 273, 274, 275, 276, 277, 278, 279, 280, 281, 282, 137, 138, 139, 140, 311, 312, 313, 314, 315, 316, 317, 254, 255, 256, 318, 319, 308, 309, 310, 320, 321, 322, 323, 176, 324, 161, 162, 163, 164, 165, 166, 167, 168, 169, 170, 42, 171, 172, 173, 174, 175, 157, 158, 159, 160, 30, 325, 326, 327, 328, 329, 330, 331, 332, 333, 334, 335, 336, 120, 121, 122, 123, 125, 126, 16, 127, 20, 128, 129, 130, 131, 132, 133, 134, 135, 136, 561, 562, 563, 580, 581, 564, 565, 566, 567, 568, 582, 583, 569, 570, 571, 572, 573, 574, 575, 576, 577, 578, 579] rfl (by decide +kernel)
set_option maxRecDepth 20000 in
theorem gL_law_L_lines : GoodIn wsL_law (va_wsS RL 116 yL_lines wsL_lines) := goodIn_app (goodIn_of _ (by decide +kernel)) ggL_law_L_lines
set_option maxRecDepth 100000 in
theorem ggL_law_L_cells : GoodIn wsL_law wsL_cells := goodIn_r _ [517, 29, 69, 70, 71, 2, 72, 12, 73, 74, 75, 76, 77, 78, 79, 80, 81, 11, 82, 83, 84, 85, 86, 87, 27, 28, 88, 89, 90, 26, 91, 92, 44, 93, 94, 95, 96, 34, 97, 98, 99, 33, 100, 101, 102, 103, 104, 105, 106, 107, 108, 109, 110, 111, 112, 48, 113, 114, 115, 116, 358, 359, 360, 361, 124, 269, 270, 271, 272, 362, 363, 364, 365, 172, 173, 174, 175, 311, 312, 313, 314, 315, 316, 317, 254, 255, 256, 318, 319, 308, 309, 310, 320, 321, 322, 323, 176, 324, 138, 139, 140, 161, 162, 163, 164, 165, 166, 167, 168, 169, 170, 42, 171, 157, 158, 159, 160, 30, 325, 326, 327, 328, 329, 330, 331, 332, 137, 333, 334, 335, 336, 366, 367, 368, 369, 370, 371, 372, 373, 374, 154, 155, 156, 265, 266, 267, 268, 273, 274, 275, 276, 277, 278, 279, 280, 281, 282, 120, 121, 122, 123, 125, 126, 16, 127, 20, 128, 129, 130, 131, 132, 133, 134, 135, 136, 141, 142, 143, 144, 145, 146, 147, 148, 149, 150, 151, 152, 153, 561, 562, 563, 580, 581, 564, 565, 566, 567, 568, 582, 583, 569, 570, 571, 572, 573, 574, 575, 576, 577, 578, 579] rfl (by decide +kernel)
set_option maxRecDepth 20000 in
theorem gL_law_L_cells : GoodIn wsL_law (va_wsS RL 120 yL_cells wsL_cells) := goodIn_app (goodIn_of _ (by decide +kernel)) ggL_law_L_cells
set_option maxRecDepth 100000 in
theorem ggL_law_L_changes : GoodIn wsL_law wsL_changes := goodIn_r _ [520, 29, 120, 121, 122, 2, 123, 12, 124, 125, 126, 16, 127, 20, 128, 129, 130, 131, 33, 132, 105, 109, 110, 111, 112, 48, 133, 134, 135, 136, 137, 138, 139, 140, 311, 312, 313, 314, 315, 316, 317, 254, 255, 256, 318, 319, 308, 309, 26, 310, 92, 44, 320, 321, 322, 11, 323, 34, 176, 324, 161, 162, 163, 164, 165, 166, 167, 168, 169, 170, 42, 171, 172, 173, 174, 175, 157, 158, 159, 160, 30, 325, 326, 327, 328, 329, 330, 331, 332, 333, 334, 335, 336, 521, 522, 62, 523, 524, 525, 526, 527, 528, 529, 530, 531, 532, 533, 534, 535, 536, 537, 538, 539, 540, 541, 542, 543, 544, 545, 83, 84, 85, 86, 87, 27, 28, 88, 89, 90, 91, 113, 114, 115, 116, 101, 102, 103, 104, 106, 107, 108, 97, 98, 99, 100, 546, 547, 548, 549, 550, 551, 552, 553, 554, 363, 364, 365, 555, 556, 557, 498, 499, 500, 501, 416, 218, 219, 561, 562, 563, 564, 565, 566, 567, 568, 582, 583, 569, 570, 571, 572, 573, 574, 575, 576, 577, 578, 579, 580, 581] rfl (by decide +kernel)
set_option maxRecDepth 20000 in
theorem gL_law_L_changes : GoodIn wsL_law (va_wsS RL 123 yL_changes wsL_changes) := goodIn_app (goodIn_of _ (by decide +kernel)) ggL_law_L_changes
set_option maxRecDepth 100000 in
theorem ggL_law_L_errors : GoodIn wsL_law wsL_errors := goodIn_r _ [560, 120, 121, 122, 2, 123, 12, 124, 125, 126, 16, 127, 20, 128, 129, 130, 131, 33, 132, 105, 109, 110, 111, 112, 48, 133, 134, 135, 136, 137, 138, 139, 140, 177, 178, 179, 180, 181, 182, 183, 15, 184, 185, 186, 187, 188, 189, 54, 190, 191, 192, 193, 194, 195, 196, 197, 11, 198, 27, 28, 30, 34, 35, 199, 200, 201, 26, 202, 44, 92, 203, 204, 205, 170, 42, 171, 206, 207, 208, 209, 210, 211, 212, 213, 214, 215, 216, 217, 83, 218, 219, 77, 78, 84, 85, 86, 87, 220, 221, 222, 223, 224, 225, 226, 227, 228, 229, 230, 231, 232, 233, 234, 235, 236, 237, 238, 239, 240, 241, 242, 243, 106, 107, 108, 244, 245, 246, 247, 248, 249, 250, 251, 252, 253, 254, 255, 256, 257, 258, 259, 260, 261, 262, 263, 264, 286, 287, 288, 289, 290, 291, 292, 293, 294, 270, 271, 272, 88, 89, 90, 91, 295, 296, 297, 298, 299, 300, 301, 302, 303, 304, 305, 306, 307, 308, 309, 310, 97, 98, 99, 100, 101, 102, 103, 104, 113, 114, 115, 116, 176, 340, 341, 342, 343, 344, 345, 346, 347, 161, 162, 163, 164, 165, 166, 167, 168, 169, 172, 173, 174, 175, 157, 158, 159, 160, 348, 349, 350, 351, 352, 353, 354, 355, 356, 357, 378, 379, 380, 381, 317, 382, 383, 384, 385, 386, 387, 388, 330, 331, 332, 389, 390, 391, 392, 393, 394, 395, 396, 397, 398, 399, 400, 502, 503, 504, 505, 416, 506, 507, 508, 509, 324, 510, 511, 311, 312, 313, 314, 315, 316, 318, 319, 320, 321, 322, 323, 325, 326, 327, 328, 329, 333, 334, 335, 336, 524, 525, 526, 527, 528, 69, 70, 71, 72, 73, 74, 75, 76, 79, 80, 81, 82, 93, 94, 95, 96, 358, 359, 360, 361, 269, 362, 363, 364, 365, 561, 562, 563, 564, 565, 566, 567, 568, 582, 583, 569, 570, 571, 572, 573, 574, 575, 576, 577, 578, 579, 580, 581] rfl (by decide +kernel)
set_option maxRecDepth 20000 in
theorem gL_law_L_errors : GoodIn wsL_law (va_wsS RL 126 yL_errors wsL_errors) := goodIn_app (goodIn_of _ (by decide +kernel)) ggL_law_L_errors
